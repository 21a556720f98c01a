section
-- ===== PART A: goes FIRST, ahead of the names: the tables' words, and 'selects' of the private methods out of them =====
/-- a private method of a class that the tables say can be made, by its rows of tables_1 -/
def lw_okq (q : MethodName × Nat) : Prop := (q.1.cls ≠ "java/lang/invoke/MethodHandle" ∧ q.1.cls ≠ "java/lang/invoke/VarHandle") ∧ Cond.instantiable q.1.cls q.2 ∈ tables_1 ∧ Cond.privateMethod q.1 ∈ tables_1 ∧ Cond.instanceMethod q.1 ∈ tables_1
theorem lw_p0 : lw_okq (⟨"LookupBoard$History", "dropOldest", "()V"⟩, 2) := ⟨⟨by decide +kernel, by decide +kernel⟩, List.mem_of_getElem? (i := 52) (by decide +kernel), List.mem_of_getElem? (i := 158) (by decide +kernel), List.mem_of_getElem? (i := 159) (by decide +kernel)⟩
theorem lw_p1 : lw_okq (⟨"LookupBoard$History", "stateAt", "(I)LLookupBoard$Board;"⟩, 2) := ⟨⟨by decide +kernel, by decide +kernel⟩, List.mem_of_getElem? (i := 52) (by decide +kernel), List.mem_of_getElem? (i := 162) (by decide +kernel), List.mem_of_getElem? (i := 163) (by decide +kernel)⟩
theorem lw_p2 : lw_okq (⟨"LookupBoard$Layer", "measureCosts", "(LLookupBoard$Board;I)V"⟩, 1) := ⟨⟨by decide +kernel, by decide +kernel⟩, List.mem_of_getElem? (i := 68) (by decide +kernel), List.mem_of_getElem? (i := 263) (by decide +kernel), List.mem_of_getElem? (i := 264) (by decide +kernel)⟩
theorem lw_p3 : lw_okq (⟨"LookupBoard$Layer", "costOver", "(LLookupBoard$Board;II)I"⟩, 1) := ⟨⟨by decide +kernel, by decide +kernel⟩, List.mem_of_getElem? (i := 68) (by decide +kernel), List.mem_of_getElem? (i := 269) (by decide +kernel), List.mem_of_getElem? (i := 270) (by decide +kernel)⟩
theorem lw_p4 : lw_okq (⟨"LookupBoard$Layer", "nextJunction", "(LLookupBoard$Board;I)I"⟩, 1) := ⟨⟨by decide +kernel, by decide +kernel⟩, List.mem_of_getElem? (i := 68) (by decide +kernel), List.mem_of_getElem? (i := 284) (by decide +kernel), List.mem_of_getElem? (i := 285) (by decide +kernel)⟩
theorem lw_p5 : lw_okq (⟨"LookupBoard", "acceptTrial", "()V"⟩, 8) := ⟨⟨by decide +kernel, by decide +kernel⟩, List.mem_of_getElem? (i := 12) (by decide +kernel), List.mem_of_getElem? (i := 292) (by decide +kernel), List.mem_of_getElem? (i := 293) (by decide +kernel)⟩
theorem lw_p6 : lw_okq (⟨"LookupBoard", "trySwap", "(II)I"⟩, 8) := ⟨⟨by decide +kernel, by decide +kernel⟩, List.mem_of_getElem? (i := 12) (by decide +kernel), List.mem_of_getElem? (i := 301) (by decide +kernel), List.mem_of_getElem? (i := 302) (by decide +kernel)⟩
theorem lw_p7 : lw_okq (⟨"LookupBoard", "tryOrder", "(I)I"⟩, 8) := ⟨⟨by decide +kernel, by decide +kernel⟩, List.mem_of_getElem? (i := 12) (by decide +kernel), List.mem_of_getElem? (i := 337) (by decide +kernel), List.mem_of_getElem? (i := 338) (by decide +kernel)⟩
theorem lw_p8 : lw_okq (⟨"LookupBoard$PlanText", "readCell", "(LLookupBoard$Board;)Z"⟩, 3) := ⟨⟨by decide +kernel, by decide +kernel⟩, List.mem_of_getElem? (i := 97) (by decide +kernel), List.mem_of_getElem? (i := 373) (by decide +kernel), List.mem_of_getElem? (i := 374) (by decide +kernel)⟩
theorem lw_p9 : lw_okq (⟨"LookupBoard$PlanText", "readNumber", "(I)I"⟩, 3) := ⟨⟨by decide +kernel, by decide +kernel⟩, List.mem_of_getElem? (i := 97) (by decide +kernel), List.mem_of_getElem? (i := 377) (by decide +kernel), List.mem_of_getElem? (i := 378) (by decide +kernel)⟩
theorem lw_p10 : lw_okq (⟨"LookupBoard$PlanText", "digitHere", "()I"⟩, 3) := ⟨⟨by decide +kernel, by decide +kernel⟩, List.mem_of_getElem? (i := 97) (by decide +kernel), List.mem_of_getElem? (i := 381) (by decide +kernel), List.mem_of_getElem? (i := 382) (by decide +kernel)⟩
theorem lw_p11 : lw_okq (⟨"LookupBoard$PlanText", "signHere", "()I"⟩, 3) := ⟨⟨by decide +kernel, by decide +kernel⟩, List.mem_of_getElem? (i := 97) (by decide +kernel), List.mem_of_getElem? (i := 385) (by decide +kernel), List.mem_of_getElem? (i := 386) (by decide +kernel)⟩
theorem lw_p12 : lw_okq (⟨"LookupBoard$PlanText", "pass", "(C)Z"⟩, 3) := ⟨⟨by decide +kernel, by decide +kernel⟩, List.mem_of_getElem? (i := 97) (by decide +kernel), List.mem_of_getElem? (i := 389) (by decide +kernel), List.mem_of_getElem? (i := 390) (by decide +kernel)⟩
theorem lw_p13 : lw_okq (⟨"LookupBoard$PlanText", "readTableSign", "()I"⟩, 3) := ⟨⟨by decide +kernel, by decide +kernel⟩, List.mem_of_getElem? (i := 97) (by decide +kernel), List.mem_of_getElem? (i := 393) (by decide +kernel), List.mem_of_getElem? (i := 394) (by decide +kernel)⟩
theorem lw_p14 : lw_okq (⟨"LookupBoard$PlanText", "readSource", "()I"⟩, 3) := ⟨⟨by decide +kernel, by decide +kernel⟩, List.mem_of_getElem? (i := 97) (by decide +kernel), List.mem_of_getElem? (i := 398) (by decide +kernel), List.mem_of_getElem? (i := 399) (by decide +kernel)⟩
theorem lw_p15 : lw_okq (⟨"LookupBoard$Logic", "settleSome", "(LLookupBoard$Board;)Z"⟩, 4) := ⟨⟨by decide +kernel, by decide +kernel⟩, List.mem_of_getElem? (i := 78) (by decide +kernel), List.mem_of_getElem? (i := 457) (by decide +kernel), List.mem_of_getElem? (i := 458) (by decide +kernel)⟩
def lw_privs_1 : List (MethodName × Nat) := [(⟨"LookupBoard$History", "dropOldest", "()V"⟩, 2), (⟨"LookupBoard$History", "stateAt", "(I)LLookupBoard$Board;"⟩, 2), (⟨"LookupBoard$Layer", "measureCosts", "(LLookupBoard$Board;I)V"⟩, 1), (⟨"LookupBoard$Layer", "costOver", "(LLookupBoard$Board;II)I"⟩, 1), (⟨"LookupBoard$Layer", "nextJunction", "(LLookupBoard$Board;I)I"⟩, 1), (⟨"LookupBoard", "acceptTrial", "()V"⟩, 8), (⟨"LookupBoard", "trySwap", "(II)I"⟩, 8), (⟨"LookupBoard", "tryOrder", "(I)I"⟩, 8), (⟨"LookupBoard$PlanText", "readCell", "(LLookupBoard$Board;)Z"⟩, 3), (⟨"LookupBoard$PlanText", "readNumber", "(I)I"⟩, 3), (⟨"LookupBoard$PlanText", "digitHere", "()I"⟩, 3), (⟨"LookupBoard$PlanText", "signHere", "()I"⟩, 3), (⟨"LookupBoard$PlanText", "pass", "(C)Z"⟩, 3), (⟨"LookupBoard$PlanText", "readTableSign", "()I"⟩, 3), (⟨"LookupBoard$PlanText", "readSource", "()I"⟩, 3), (⟨"LookupBoard$Logic", "settleSome", "(LLookupBoard$Board;)Z"⟩, 4)]
theorem lw_r1 : ∀ q ∈ lw_privs_1, lw_okq q := List.forall_mem_cons.mpr ⟨lw_p0, List.forall_mem_cons.mpr ⟨lw_p1, List.forall_mem_cons.mpr ⟨lw_p2, List.forall_mem_cons.mpr ⟨lw_p3, List.forall_mem_cons.mpr ⟨lw_p4, List.forall_mem_cons.mpr ⟨lw_p5, List.forall_mem_cons.mpr ⟨lw_p6, List.forall_mem_cons.mpr ⟨lw_p7, List.forall_mem_cons.mpr ⟨lw_p8, List.forall_mem_cons.mpr ⟨lw_p9, List.forall_mem_cons.mpr ⟨lw_p10, List.forall_mem_cons.mpr ⟨lw_p11, List.forall_mem_cons.mpr ⟨lw_p12, List.forall_mem_cons.mpr ⟨lw_p13, List.forall_mem_cons.mpr ⟨lw_p14, List.forall_mem_cons.mpr ⟨lw_p15, fun _ h => absurd h List.not_mem_nil⟩⟩⟩⟩⟩⟩⟩⟩⟩⟩⟩⟩⟩⟩⟩⟩
theorem lw_p16 : lw_okq (⟨"LookupBoard$Logic", "depthBySources", "(LLookupBoard$Board;I)I"⟩, 4) := ⟨⟨by decide +kernel, by decide +kernel⟩, List.mem_of_getElem? (i := 78) (by decide +kernel), List.mem_of_getElem? (i := 462) (by decide +kernel), List.mem_of_getElem? (i := 463) (by decide +kernel)⟩
theorem lw_p17 : lw_okq (⟨"LookupBoard$Logic", "sourceBit", "(II)I"⟩, 4) := ⟨⟨by decide +kernel, by decide +kernel⟩, List.mem_of_getElem? (i := 78) (by decide +kernel), List.mem_of_getElem? (i := 505) (by decide +kernel), List.mem_of_getElem? (i := 506) (by decide +kernel)⟩
theorem lw_p18 : lw_okq (⟨"LookupBoardModel", "records", "()V"⟩, 16) := ⟨⟨by decide +kernel, by decide +kernel⟩, List.mem_of_getElem? (i := 552) (by decide +kernel), List.mem_of_getElem? (i := 621) (by decide +kernel), List.mem_of_getElem? (i := 622) (by decide +kernel)⟩
theorem lw_p19 : lw_okq (⟨"LookupBoardModel", "having", "(II)I"⟩, 16) := ⟨⟨by decide +kernel, by decide +kernel⟩, List.mem_of_getElem? (i := 552) (by decide +kernel), List.mem_of_getElem? (i := 635) (by decide +kernel), List.mem_of_getElem? (i := 636) (by decide +kernel)⟩
theorem lw_p20 : lw_okq (⟨"LookupBoardModel", "becomes", "(II)I"⟩, 16) := ⟨⟨by decide +kernel, by decide +kernel⟩, List.mem_of_getElem? (i := 552) (by decide +kernel), List.mem_of_getElem? (i := 652) (by decide +kernel), List.mem_of_getElem? (i := 653) (by decide +kernel)⟩
theorem lw_p21 : lw_okq (⟨"LookupBoardModel", "counts", "([I)V"⟩, 16) := ⟨⟨by decide +kernel, by decide +kernel⟩, List.mem_of_getElem? (i := 552) (by decide +kernel), List.mem_of_getElem? (i := 663) (by decide +kernel), List.mem_of_getElem? (i := 664) (by decide +kernel)⟩
theorem lw_p22 : lw_okq (⟨"LookupBoardModel", "isLaid", "([II)Z"⟩, 16) := ⟨⟨by decide +kernel, by decide +kernel⟩, List.mem_of_getElem? (i := 552) (by decide +kernel), List.mem_of_getElem? (i := 670) (by decide +kernel), List.mem_of_getElem? (i := 671) (by decide +kernel)⟩
theorem lw_p23 : lw_okq (⟨"LookupBoardModel", "reaches", "([II)V"⟩, 16) := ⟨⟨by decide +kernel, by decide +kernel⟩, List.mem_of_getElem? (i := 552) (by decide +kernel), List.mem_of_getElem? (i := 677) (by decide +kernel), List.mem_of_getElem? (i := 678) (by decide +kernel)⟩
theorem lw_p24 : lw_okq (⟨"LookupBoardModel", "cost", "([III)I"⟩, 16) := ⟨⟨by decide +kernel, by decide +kernel⟩, List.mem_of_getElem? (i := 552) (by decide +kernel), List.mem_of_getElem? (i := 688) (by decide +kernel), List.mem_of_getElem? (i := 689) (by decide +kernel)⟩
theorem lw_p25 : lw_okq (⟨"LookupBoardModel", "nextOn", "([II)I"⟩, 16) := ⟨⟨by decide +kernel, by decide +kernel⟩, List.mem_of_getElem? (i := 552) (by decide +kernel), List.mem_of_getElem? (i := 692) (by decide +kernel), List.mem_of_getElem? (i := 693) (by decide +kernel)⟩
theorem lw_p26 : lw_okq (⟨"LookupBoardModel", "swapped", "(II)I"⟩, 16) := ⟨⟨by decide +kernel, by decide +kernel⟩, List.mem_of_getElem? (i := 552) (by decide +kernel), List.mem_of_getElem? (i := 703) (by decide +kernel), List.mem_of_getElem? (i := 704) (by decide +kernel)⟩
theorem lw_p27 : lw_okq (⟨"LookupBoardModel", "laysAll", "([II)I"⟩, 16) := ⟨⟨by decide +kernel, by decide +kernel⟩, List.mem_of_getElem? (i := 552) (by decide +kernel), List.mem_of_getElem? (i := 707) (by decide +kernel), List.mem_of_getElem? (i := 708) (by decide +kernel)⟩
theorem lw_p28 : lw_okq (⟨"LookupBoardModel", "nextWire", "([II)I"⟩, 16) := ⟨⟨by decide +kernel, by decide +kernel⟩, List.mem_of_getElem? (i := 552) (by decide +kernel), List.mem_of_getElem? (i := 711) (by decide +kernel), List.mem_of_getElem? (i := 712) (by decide +kernel)⟩
theorem lw_p29 : lw_okq (⟨"LookupBoardModel", "accepts", "(I)I"⟩, 16) := ⟨⟨by decide +kernel, by decide +kernel⟩, List.mem_of_getElem? (i := 552) (by decide +kernel), List.mem_of_getElem? (i := 724) (by decide +kernel), List.mem_of_getElem? (i := 725) (by decide +kernel)⟩
theorem lw_p30 : lw_okq (⟨"LookupBoardModel", "ordered", "(I)I"⟩, 16) := ⟨⟨by decide +kernel, by decide +kernel⟩, List.mem_of_getElem? (i := 552) (by decide +kernel), List.mem_of_getElem? (i := 732) (by decide +kernel), List.mem_of_getElem? (i := 733) (by decide +kernel)⟩
theorem lw_p31 : lw_okq (⟨"LookupBoardModel", "mostHeld", "()I"⟩, 16) := ⟨⟨by decide +kernel, by decide +kernel⟩, List.mem_of_getElem? (i := 552) (by decide +kernel), List.mem_of_getElem? (i := 740) (by decide +kernel), List.mem_of_getElem? (i := 741) (by decide +kernel)⟩
def lw_privs_2 : List (MethodName × Nat) := [(⟨"LookupBoard$Logic", "depthBySources", "(LLookupBoard$Board;I)I"⟩, 4), (⟨"LookupBoard$Logic", "sourceBit", "(II)I"⟩, 4), (⟨"LookupBoardModel", "records", "()V"⟩, 16), (⟨"LookupBoardModel", "having", "(II)I"⟩, 16), (⟨"LookupBoardModel", "becomes", "(II)I"⟩, 16), (⟨"LookupBoardModel", "counts", "([I)V"⟩, 16), (⟨"LookupBoardModel", "isLaid", "([II)Z"⟩, 16), (⟨"LookupBoardModel", "reaches", "([II)V"⟩, 16), (⟨"LookupBoardModel", "cost", "([III)I"⟩, 16), (⟨"LookupBoardModel", "nextOn", "([II)I"⟩, 16), (⟨"LookupBoardModel", "swapped", "(II)I"⟩, 16), (⟨"LookupBoardModel", "laysAll", "([II)I"⟩, 16), (⟨"LookupBoardModel", "nextWire", "([II)I"⟩, 16), (⟨"LookupBoardModel", "accepts", "(I)I"⟩, 16), (⟨"LookupBoardModel", "ordered", "(I)I"⟩, 16), (⟨"LookupBoardModel", "mostHeld", "()I"⟩, 16)]
theorem lw_r2 : ∀ q ∈ lw_privs_2, lw_okq q := List.forall_mem_cons.mpr ⟨lw_p16, List.forall_mem_cons.mpr ⟨lw_p17, List.forall_mem_cons.mpr ⟨lw_p18, List.forall_mem_cons.mpr ⟨lw_p19, List.forall_mem_cons.mpr ⟨lw_p20, List.forall_mem_cons.mpr ⟨lw_p21, List.forall_mem_cons.mpr ⟨lw_p22, List.forall_mem_cons.mpr ⟨lw_p23, List.forall_mem_cons.mpr ⟨lw_p24, List.forall_mem_cons.mpr ⟨lw_p25, List.forall_mem_cons.mpr ⟨lw_p26, List.forall_mem_cons.mpr ⟨lw_p27, List.forall_mem_cons.mpr ⟨lw_p28, List.forall_mem_cons.mpr ⟨lw_p29, List.forall_mem_cons.mpr ⟨lw_p30, List.forall_mem_cons.mpr ⟨lw_p31, fun _ h => absurd h List.not_mem_nil⟩⟩⟩⟩⟩⟩⟩⟩⟩⟩⟩⟩⟩⟩⟩⟩
theorem lw_p32 : lw_okq (⟨"LookupBoardModel", "fault", "()I"⟩, 16) := ⟨⟨by decide +kernel, by decide +kernel⟩, List.mem_of_getElem? (i := 552) (by decide +kernel), List.mem_of_getElem? (i := 756) (by decide +kernel), List.mem_of_getElem? (i := 757) (by decide +kernel)⟩
theorem lw_p33 : lw_okq (⟨"LookupBoardModel", "isCellTold", "()Z"⟩, 16) := ⟨⟨by decide +kernel, by decide +kernel⟩, List.mem_of_getElem? (i := 552) (by decide +kernel), List.mem_of_getElem? (i := 760) (by decide +kernel), List.mem_of_getElem? (i := 761) (by decide +kernel)⟩
theorem lw_p34 : lw_okq (⟨"LookupBoardModel", "isNumber", "(I)Z"⟩, 16) := ⟨⟨by decide +kernel, by decide +kernel⟩, List.mem_of_getElem? (i := 552) (by decide +kernel), List.mem_of_getElem? (i := 764) (by decide +kernel), List.mem_of_getElem? (i := 765) (by decide +kernel)⟩
theorem lw_p35 : lw_okq (⟨"LookupBoardModel", "sees", "(II)Z"⟩, 16) := ⟨⟨by decide +kernel, by decide +kernel⟩, List.mem_of_getElem? (i := 552) (by decide +kernel), List.mem_of_getElem? (i := 768) (by decide +kernel), List.mem_of_getElem? (i := 769) (by decide +kernel)⟩
theorem lw_p36 : lw_okq (⟨"LookupBoardModel", "takes", "(I)Z"⟩, 16) := ⟨⟨by decide +kernel, by decide +kernel⟩, List.mem_of_getElem? (i := 552) (by decide +kernel), List.mem_of_getElem? (i := 772) (by decide +kernel), List.mem_of_getElem? (i := 773) (by decide +kernel)⟩
theorem lw_p37 : lw_okq (⟨"LookupBoardModel", "sixteenth", "()I"⟩, 16) := ⟨⟨by decide +kernel, by decide +kernel⟩, List.mem_of_getElem? (i := 552) (by decide +kernel), List.mem_of_getElem? (i := 776) (by decide +kernel), List.mem_of_getElem? (i := 777) (by decide +kernel)⟩
theorem lw_p38 : lw_okq (⟨"LookupBoardModel", "areSources", "(I)Z"⟩, 16) := ⟨⟨by decide +kernel, by decide +kernel⟩, List.mem_of_getElem? (i := 552) (by decide +kernel), List.mem_of_getElem? (i := 780) (by decide +kernel), List.mem_of_getElem? (i := 781) (by decide +kernel)⟩
theorem lw_p39 : lw_okq (⟨"LookupBoardModel", "isSourceTold", "()Z"⟩, 16) := ⟨⟨by decide +kernel, by decide +kernel⟩, List.mem_of_getElem? (i := 552) (by decide +kernel), List.mem_of_getElem? (i := 784) (by decide +kernel), List.mem_of_getElem? (i := 785) (by decide +kernel)⟩
theorem lw_p40 : lw_okq (⟨"LookupBoardModel", "answers", "(I)V"⟩, 16) := ⟨⟨by decide +kernel, by decide +kernel⟩, List.mem_of_getElem? (i := 552) (by decide +kernel), List.mem_of_getElem? (i := 804) (by decide +kernel), List.mem_of_getElem? (i := 805) (by decide +kernel)⟩
theorem lw_p41 : lw_okq (⟨"LookupBoardModel", "under", "(I)I"⟩, 16) := ⟨⟨by decide +kernel, by decide +kernel⟩, List.mem_of_getElem? (i := 552) (by decide +kernel), List.mem_of_getElem? (i := 808) (by decide +kernel), List.mem_of_getElem? (i := 809) (by decide +kernel)⟩
theorem lw_p42 : lw_okq (⟨"LookupBoardModel", "lookedUp", "(II)I"⟩, 16) := ⟨⟨by decide +kernel, by decide +kernel⟩, List.mem_of_getElem? (i := 552) (by decide +kernel), List.mem_of_getElem? (i := 812) (by decide +kernel), List.mem_of_getElem? (i := 813) (by decide +kernel)⟩
theorem lw_p43 : lw_okq (⟨"LookupBoardModel", "bitOf", "(II)I"⟩, 16) := ⟨⟨by decide +kernel, by decide +kernel⟩, List.mem_of_getElem? (i := 552) (by decide +kernel), List.mem_of_getElem? (i := 816) (by decide +kernel), List.mem_of_getElem? (i := 817) (by decide +kernel)⟩
theorem lw_p44 : lw_okq (⟨"LookupBoardModel", "ofWires", "(I)I"⟩, 16) := ⟨⟨by decide +kernel, by decide +kernel⟩, List.mem_of_getElem? (i := 552) (by decide +kernel), List.mem_of_getElem? (i := 820) (by decide +kernel), List.mem_of_getElem? (i := 821) (by decide +kernel)⟩
theorem lw_p45 : lw_okq (⟨"LookupBoardModel", "wires", "()I"⟩, 16) := ⟨⟨by decide +kernel, by decide +kernel⟩, List.mem_of_getElem? (i := 552) (by decide +kernel), List.mem_of_getElem? (i := 856) (by decide +kernel), List.mem_of_getElem? (i := 857) (by decide +kernel)⟩
theorem lw_p46 : lw_okq (⟨"LookupBoardModel", "full", "()I"⟩, 16) := ⟨⟨by decide +kernel, by decide +kernel⟩, List.mem_of_getElem? (i := 552) (by decide +kernel), List.mem_of_getElem? (i := 860) (by decide +kernel), List.mem_of_getElem? (i := 861) (by decide +kernel)⟩
theorem lw_p47 : lw_okq (⟨"LookupBoardModel", "most", "()I"⟩, 16) := ⟨⟨by decide +kernel, by decide +kernel⟩, List.mem_of_getElem? (i := 552) (by decide +kernel), List.mem_of_getElem? (i := 864) (by decide +kernel), List.mem_of_getElem? (i := 865) (by decide +kernel)⟩
def lw_privs_3 : List (MethodName × Nat) := [(⟨"LookupBoardModel", "fault", "()I"⟩, 16), (⟨"LookupBoardModel", "isCellTold", "()Z"⟩, 16), (⟨"LookupBoardModel", "isNumber", "(I)Z"⟩, 16), (⟨"LookupBoardModel", "sees", "(II)Z"⟩, 16), (⟨"LookupBoardModel", "takes", "(I)Z"⟩, 16), (⟨"LookupBoardModel", "sixteenth", "()I"⟩, 16), (⟨"LookupBoardModel", "areSources", "(I)Z"⟩, 16), (⟨"LookupBoardModel", "isSourceTold", "()Z"⟩, 16), (⟨"LookupBoardModel", "answers", "(I)V"⟩, 16), (⟨"LookupBoardModel", "under", "(I)I"⟩, 16), (⟨"LookupBoardModel", "lookedUp", "(II)I"⟩, 16), (⟨"LookupBoardModel", "bitOf", "(II)I"⟩, 16), (⟨"LookupBoardModel", "ofWires", "(I)I"⟩, 16), (⟨"LookupBoardModel", "wires", "()I"⟩, 16), (⟨"LookupBoardModel", "full", "()I"⟩, 16), (⟨"LookupBoardModel", "most", "()I"⟩, 16)]
theorem lw_r3 : ∀ q ∈ lw_privs_3, lw_okq q := List.forall_mem_cons.mpr ⟨lw_p32, List.forall_mem_cons.mpr ⟨lw_p33, List.forall_mem_cons.mpr ⟨lw_p34, List.forall_mem_cons.mpr ⟨lw_p35, List.forall_mem_cons.mpr ⟨lw_p36, List.forall_mem_cons.mpr ⟨lw_p37, List.forall_mem_cons.mpr ⟨lw_p38, List.forall_mem_cons.mpr ⟨lw_p39, List.forall_mem_cons.mpr ⟨lw_p40, List.forall_mem_cons.mpr ⟨lw_p41, List.forall_mem_cons.mpr ⟨lw_p42, List.forall_mem_cons.mpr ⟨lw_p43, List.forall_mem_cons.mpr ⟨lw_p44, List.forall_mem_cons.mpr ⟨lw_p45, List.forall_mem_cons.mpr ⟨lw_p46, List.forall_mem_cons.mpr ⟨lw_p47, fun _ h => absurd h List.not_mem_nil⟩⟩⟩⟩⟩⟩⟩⟩⟩⟩⟩⟩⟩⟩⟩⟩
theorem lw_p48 : lw_okq (⟨"LookupBoardModel", "ofDepths", "(Z)I"⟩, 16) := ⟨⟨by decide +kernel, by decide +kernel⟩, List.mem_of_getElem? (i := 552) (by decide +kernel), List.mem_of_getElem? (i := 868) (by decide +kernel), List.mem_of_getElem? (i := 869) (by decide +kernel)⟩
def lw_privs_4 : List (MethodName × Nat) := [(⟨"LookupBoardModel", "ofDepths", "(Z)I"⟩, 16)]
theorem lw_r4 : ∀ q ∈ lw_privs_4, lw_okq q := List.forall_mem_cons.mpr ⟨lw_p48, fun _ h => absurd h List.not_mem_nil⟩
def lw_privs : List (MethodName × Nat) := lw_privs_1 ++ (lw_privs_2 ++ (lw_privs_3 ++ (lw_privs_4)))
def lw_tbl : List Cond := k2_sels lw_privs ++ tables_1
theorem lw_privs_ok : ∀ q ∈ lw_privs, lw_okq q := by
  show ∀ q ∈ lw_privs_1 ++ (lw_privs_2 ++ (lw_privs_3 ++ (lw_privs_4))), lw_okq q
  exact List.forall_mem_append.mpr ⟨lw_r1, List.forall_mem_append.mpr ⟨lw_r2, List.forall_mem_append.mpr ⟨lw_r3, lw_r4⟩⟩⟩
end
section
/-! ===== BEGIN words of one list among another's, by their places ===== -/
theorem goodIn_r {big : List Cond} (ws : List Cond) (ps : List Nat) (hp : ws = ps.filterMap (fun i => big[i]?)) (h : ws.all goodWord = true) : GoodIn big ws := by
  intro w hw
  have h1 := List.all_eq_true.mp h w hw
  rw [hp] at hw
  obtain ⟨i, -, hi⟩ := List.mem_filterMap.mp hw
  have hm : w ∈ big := by first | exact List.mem_of_getElem? hi | exact List.getElem?_mem hi
  exact ⟨hm, good_of_word h1⟩
theorem goodIn_app {big a b : List Cond} (ha : GoodIn big a) (hb : GoodIn big b) : GoodIn big (a ++ b) := fun w h => (List.mem_append.mp h).elim (ha w) (hb w)
theorem goodIn_ca {big a b : List Cond} {c : Cond} (ha : GoodIn big (c :: a)) (hb : GoodIn big b) : GoodIn big (c :: (a ++ b)) := fun w h => (List.mem_cons.mp h).elim (fun e => ha w (List.mem_cons.mpr (Or.inl e))) (fun h => (List.mem_append.mp h).elim (fun h => ha w (List.mem_cons.mpr (Or.inr h))) (hb w))
theorem goodIn_sub {big ws : List Cond} (hm : ∀ w ∈ ws, w ∈ big) (h : ws.all goodWord = true) : GoodIn big ws := fun w hw => ⟨hm w hw, good_of_word (List.all_eq_true.mp h w hw)⟩
/-! ===== END ===== -/

/-! ===== BEGIN printed: names, fields, word lists, decode rows ===== -/
def RX0 : String := "LookupBoard$Board"
def TX0 : u_T := fun k => match k with
  | 0 => ("LookupBoard$Board", "tables", "[I", true)
  | 1 => ("LookupBoard$Board", "sources", "[I", true)
  | 2 => ("LookupBoard$Board", "lengths", "[I", true)
  | 3 => ("LookupBoard$Board", "junctions", "[I", true)
  | 4 => ("LookupBoard$Board", "wiresHeld", "[I", true)
  | 5 => ("LookupBoard$Board", "capacity", "I", false)
  | _ => ("LookupBoard$Board", "surcharge", "I", false)
def tyX0 : Nat → FieldType := fun k => match k with
  | 0 => .array .int
  | 1 => .array .int
  | 2 => .array .int
  | 3 => .array .int
  | 4 => .array .int
  | 5 => .int
  | _ => .int
abbrev wsX00 : List Cond := u_ws RX0 TX0 7
theorem nmX0 : ∀ a, a < 7 → ∀ b, b < 7 → a ≠ b → (TX0 a).2.1 ≠ (TX0 b).2.1 := by decide +kernel
theorem tyX0_ok : ∀ k, k < 7 → parseFieldDescriptor (TX0 k).2.2.1 = some (tyX0 k) := by decide +kernel
abbrev cX0_init : ByteArray := prog_2_method_1_code
def yX0_init : MethodName := ⟨RX0, "<init>", "()V"⟩
abbrev cX0_copyFrom : ByteArray := prog_2_method_2_code
def yX0_copyFrom : MethodName := ⟨RX0, "copyFrom", "(LLookupBoard$Board;)V"⟩
abbrev cX0_hasCell : ByteArray := prog_2_method_3_code
def yX0_hasCell : MethodName := ⟨RX0, "hasCell", "(I)Z"⟩
abbrev cX0_tableOf : ByteArray := prog_2_method_4_code
def yX0_tableOf : MethodName := ⟨RX0, "tableOf", "(I)I"⟩
abbrev cX0_changeTable : ByteArray := prog_2_method_5_code
def yX0_changeTable : MethodName := ⟨RX0, "changeTable", "(II)V"⟩
abbrev cX0_sourceOf : ByteArray := prog_2_method_6_code
def yX0_sourceOf : MethodName := ⟨RX0, "sourceOf", "(I)I"⟩
abbrev cX0_changeSource : ByteArray := prog_2_method_7_code
def yX0_changeSource : MethodName := ⟨RX0, "changeSource", "(II)V"⟩
abbrev cX0_isSource : ByteArray := prog_2_method_8_code
def yX0_isSource : MethodName := ⟨RX0, "isSource", "(I)Z"⟩
abbrev cX0_hasAllSources : ByteArray := prog_2_method_9_code
def yX0_hasAllSources : MethodName := ⟨RX0, "hasAllSources", "()Z"⟩
abbrev cX0_removeCell : ByteArray := prog_2_method_10_code
def yX0_removeCell : MethodName := ⟨RX0, "removeCell", "(I)V"⟩
abbrev cX0_removeAllCells : ByteArray := prog_2_method_11_code
def yX0_removeAllCells : MethodName := ⟨RX0, "removeAllCells", "()V"⟩
abbrev cX0_cells : ByteArray := prog_2_method_12_code
def yX0_cells : MethodName := ⟨RX0, "cells", "()I"⟩
abbrev cX0_uses : ByteArray := prog_2_method_13_code
def yX0_uses : MethodName := ⟨RX0, "uses", "(I)I"⟩
abbrev cX0_usesByOthers : ByteArray := prog_2_method_14_code
def yX0_usesByOthers : MethodName := ⟨RX0, "usesByOthers", "(I)I"⟩
abbrev cX0_exchange : ByteArray := prog_2_method_15_code
def yX0_exchange : MethodName := ⟨RX0, "exchange", "(II)V"⟩
abbrev cX0_wires : ByteArray := prog_2_method_16_code
def yX0_wires : MethodName := ⟨RX0, "wires", "()I"⟩
abbrev cX0_lengthOf : ByteArray := prog_2_method_17_code
def yX0_lengthOf : MethodName := ⟨RX0, "lengthOf", "(I)I"⟩
abbrev cX0_segmentsOfCell : ByteArray := prog_2_method_18_code
def yX0_segmentsOfCell : MethodName := ⟨RX0, "segmentsOfCell", "(I)I"⟩
abbrev cX0_segmentsOfAll : ByteArray := prog_2_method_19_code
def yX0_segmentsOfAll : MethodName := ⟨RX0, "segmentsOfAll", "()I"⟩
abbrev cX0_distanceOf : ByteArray := prog_2_method_20_code
def yX0_distanceOf : MethodName := ⟨RX0, "distanceOf", "(I)I"⟩
abbrev cX0_junctionAt : ByteArray := prog_2_method_21_code
def yX0_junctionAt : MethodName := ⟨RX0, "junctionAt", "(II)I"⟩
abbrev cX0_startWire : ByteArray := prog_2_method_22_code
def yX0_startWire : MethodName := ⟨RX0, "startWire", "(II)V"⟩
abbrev cX0_extendWire : ByteArray := prog_2_method_23_code
def yX0_extendWire : MethodName := ⟨RX0, "extendWire", "(II)V"⟩
abbrev cX0_removeWire : ByteArray := prog_2_method_24_code
def yX0_removeWire : MethodName := ⟨RX0, "removeWire", "(I)V"⟩
abbrev cX0_removeAllWires : ByteArray := prog_2_method_25_code
def yX0_removeAllWires : MethodName := ⟨RX0, "removeAllWires", "()V"⟩
abbrev cX0_heldBy : ByteArray := prog_2_method_26_code
def yX0_heldBy : MethodName := ⟨RX0, "heldBy", "(I)I"⟩
abbrev cX0_priceOf : ByteArray := prog_2_method_27_code
def yX0_priceOf : MethodName := ⟨RX0, "priceOf", "(I)I"⟩
abbrev cX0_fullSegments : ByteArray := prog_2_method_28_code
def yX0_fullSegments : MethodName := ⟨RX0, "fullSegments", "()I"⟩
abbrev cX0_mostHeld : ByteArray := prog_2_method_29_code
def yX0_mostHeld : MethodName := ⟨RX0, "mostHeld", "()I"⟩
abbrev cX0_setting : ByteArray := prog_2_method_30_code
def yX0_setting : MethodName := ⟨RX0, "setting", "(I)I"⟩
abbrev cX0_changeSetting : ByteArray := prog_2_method_31_code
def yX0_changeSetting : MethodName := ⟨RX0, "changeSetting", "(II)V"⟩
def RX1 : String := "LookupBoard$History"
def TX1 : u_T := fun k => match k with
  | 0 => ("LookupBoard$History", "states", "[LLookupBoard$Board;", true)
  | _ => ("LookupBoard$History", "size", "I", false)
def tyX1 : Nat → FieldType := fun k => match k with
  | 0 => .array (.object "LookupBoard$Board")
  | _ => .int
abbrev wsX10 : List Cond := u_ws RX1 TX1 2
theorem nmX1 : ∀ a, a < 2 → ∀ b, b < 2 → a ≠ b → (TX1 a).2.1 ≠ (TX1 b).2.1 := by decide +kernel
theorem tyX1_ok : ∀ k, k < 2 → parseFieldDescriptor (TX1 k).2.2.1 = some (tyX1 k) := by decide +kernel
abbrev cX1_init : ByteArray := prog_3_method_1_code
def yX1_init : MethodName := ⟨RX1, "<init>", "()V"⟩
abbrev cX1_size : ByteArray := prog_3_method_2_code
def yX1_size : MethodName := ⟨RX1, "size", "()I"⟩
abbrev cX1_remember : ByteArray := prog_3_method_3_code
def yX1_remember : MethodName := ⟨RX1, "remember", "(LLookupBoard$Board;)V"⟩
abbrev cX1_bringBack : ByteArray := prog_3_method_4_code
def yX1_bringBack : MethodName := ⟨RX1, "bringBack", "(LLookupBoard$Board;)Z"⟩
abbrev cX1_dropOldest : ByteArray := prog_3_method_5_code
def yX1_dropOldest : MethodName := ⟨RX1, "dropOldest", "()V"⟩
abbrev cX1_stateAt : ByteArray := prog_3_method_6_code
def yX1_stateAt : MethodName := ⟨RX1, "stateAt", "(I)LLookupBoard$Board;"⟩
def RX2 : String := "LookupBoard$Layer"
def TX2 : u_T := fun k => match k with
  | _ => ("LookupBoard$Layer", "costs", "[I", true)
def tyX2 : Nat → FieldType := fun k => match k with
  | _ => .array .int
abbrev wsX20 : List Cond := u_ws RX2 TX2 1
theorem nmX2 : ∀ a, a < 1 → ∀ b, b < 1 → a ≠ b → (TX2 a).2.1 ≠ (TX2 b).2.1 := by decide +kernel
theorem tyX2_ok : ∀ k, k < 1 → parseFieldDescriptor (TX2 k).2.2.1 = some (tyX2 k) := by decide +kernel
abbrev cX2_init : ByteArray := prog_4_method_1_code
def yX2_init : MethodName := ⟨RX2, "<init>", "()V"⟩
abbrev cX2_layAll : ByteArray := prog_4_method_2_code
def yX2_layAll : MethodName := ⟨RX2, "layAll", "(LLookupBoard$Board;I)I"⟩
abbrev cX2_layWire : ByteArray := prog_4_method_3_code
def yX2_layWire : MethodName := ⟨RX2, "layWire", "(LLookupBoard$Board;I)Z"⟩
abbrev cX2_measureCosts : ByteArray := prog_4_method_4_code
def yX2_measureCosts : MethodName := ⟨RX2, "measureCosts", "(LLookupBoard$Board;I)V"⟩
abbrev cX2_costOver : ByteArray := prog_4_method_5_code
def yX2_costOver : MethodName := ⟨RX2, "costOver", "(LLookupBoard$Board;II)I"⟩
abbrev cX2_nextJunction : ByteArray := prog_4_method_6_code
def yX2_nextJunction : MethodName := ⟨RX2, "nextJunction", "(LLookupBoard$Board;I)I"⟩
def RX3 : String := "LookupBoard$Logic"
def TX3 : u_T := fun k => match k with
  | 0 => ("LookupBoard$Logic", "depths", "[I", true)
  | 1 => ("LookupBoard$Logic", "bits", "[I", true)
  | 2 => ("LookupBoard$Logic", "sequence", "[I", true)
  | _ => ("LookupBoard$Logic", "settled", "I", false)
def tyX3 : Nat → FieldType := fun k => match k with
  | 0 => .array .int
  | 1 => .array .int
  | 2 => .array .int
  | _ => .int
abbrev wsX30 : List Cond := u_ws RX3 TX3 4
theorem nmX3 : ∀ a, a < 4 → ∀ b, b < 4 → a ≠ b → (TX3 a).2.1 ≠ (TX3 b).2.1 := by decide +kernel
theorem tyX3_ok : ∀ k, k < 4 → parseFieldDescriptor (TX3 k).2.2.1 = some (tyX3 k) := by decide +kernel
abbrev cX3_init : ByteArray := prog_5_method_1_code
def yX3_init : MethodName := ⟨RX3, "<init>", "()V"⟩
abbrev cX3_study : ByteArray := prog_5_method_2_code
def yX3_study : MethodName := ⟨RX3, "study", "(LLookupBoard$Board;)V"⟩
abbrev cX3_settleSome : ByteArray := prog_5_method_3_code
def yX3_settleSome : MethodName := ⟨RX3, "settleSome", "(LLookupBoard$Board;)Z"⟩
abbrev cX3_depthBySources : ByteArray := prog_5_method_4_code
def yX3_depthBySources : MethodName := ⟨RX3, "depthBySources", "(LLookupBoard$Board;I)I"⟩
abbrev cX3_work : ByteArray := prog_5_method_5_code
def yX3_work : MethodName := ⟨RX3, "work", "(LLookupBoard$Board;I)V"⟩
abbrev cX3_sourceBit : ByteArray := prog_5_method_6_code
def yX3_sourceBit : MethodName := ⟨RX3, "sourceBit", "(II)I"⟩
abbrev cX3_answers : ByteArray := prog_5_method_7_code
def yX3_answers : MethodName := ⟨RX3, "answers", "(I)Z"⟩
abbrev cX3_depthOf : ByteArray := prog_5_method_8_code
def yX3_depthOf : MethodName := ⟨RX3, "depthOf", "(I)I"⟩
abbrev cX3_bitOf : ByteArray := prog_5_method_9_code
def yX3_bitOf : MethodName := ⟨RX3, "bitOf", "(I)I"⟩
abbrev cX3_cellsThatAnswer : ByteArray := prog_5_method_10_code
def yX3_cellsThatAnswer : MethodName := ⟨RX3, "cellsThatAnswer", "()I"⟩
abbrev cX3_greatestDepth : ByteArray := prog_5_method_11_code
def yX3_greatestDepth : MethodName := ⟨RX3, "greatestDepth", "()I"⟩
def RX4 : String := "LookupBoard$PlanText"
def TX4 : u_T := fun k => match k with
  | 0 => ("LookupBoard$PlanText", "signs", "[C", true)
  | 1 => ("LookupBoard$PlanText", "length", "I", false)
  | _ => ("LookupBoard$PlanText", "at", "I", false)
def tyX4 : Nat → FieldType := fun k => match k with
  | 0 => .array .char
  | 1 => .int
  | _ => .int
abbrev wsX40 : List Cond := u_ws RX4 TX4 3
theorem nmX4 : ∀ a, a < 3 → ∀ b, b < 3 → a ≠ b → (TX4 a).2.1 ≠ (TX4 b).2.1 := by decide +kernel
theorem tyX4_ok : ∀ k, k < 3 → parseFieldDescriptor (TX4 k).2.2.1 = some (tyX4 k) := by decide +kernel
abbrev cX4_init : ByteArray := prog_6_method_1_code
def yX4_init : MethodName := ⟨RX4, "<init>", "()V"⟩
abbrev cX4_length : ByteArray := prog_6_method_2_code
def yX4_length : MethodName := ⟨RX4, "length", "()I"⟩
abbrev cX4_append : ByteArray := prog_6_method_3_code
def yX4_append : MethodName := ⟨RX4, "append", "(C)Z"⟩
abbrev cX4_empty : ByteArray := prog_6_method_4_code
def yX4_empty : MethodName := ⟨RX4, "empty", "()V"⟩
abbrev cX4_readInto : ByteArray := prog_6_method_5_code
def yX4_readInto : MethodName := ⟨RX4, "readInto", "(LLookupBoard$Board;)I"⟩
abbrev cX4_readCell : ByteArray := prog_6_method_6_code
def yX4_readCell : MethodName := ⟨RX4, "readCell", "(LLookupBoard$Board;)Z"⟩
abbrev cX4_readSource : ByteArray := prog_6_method_7_code
def yX4_readSource : MethodName := ⟨RX4, "readSource", "()I"⟩
abbrev cX4_readNumber : ByteArray := prog_6_method_8_code
def yX4_readNumber : MethodName := ⟨RX4, "readNumber", "(I)I"⟩
abbrev cX4_readTableSign : ByteArray := prog_6_method_9_code
def yX4_readTableSign : MethodName := ⟨RX4, "readTableSign", "()I"⟩
abbrev cX4_digitHere : ByteArray := prog_6_method_10_code
def yX4_digitHere : MethodName := ⟨RX4, "digitHere", "()I"⟩
abbrev cX4_pass : ByteArray := prog_6_method_11_code
def yX4_pass : MethodName := ⟨RX4, "pass", "(C)Z"⟩
abbrev cX4_signHere : ByteArray := prog_6_method_12_code
def yX4_signHere : MethodName := ⟨RX4, "signHere", "()I"⟩
def RX5 : String := "LookupBoard"
def TX5 : u_T := fun k => match k with
  | 0 => ("LookupBoard", "board", "LLookupBoard$Board;", true)
  | 1 => ("LookupBoard", "trial", "LLookupBoard$Board;", true)
  | 2 => ("LookupBoard", "snapshot", "LLookupBoard$Board;", true)
  | 3 => ("LookupBoard", "history", "LLookupBoard$History;", true)
  | 4 => ("LookupBoard", "layer", "LLookupBoard$Layer;", true)
  | 5 => ("LookupBoard", "logic", "LLookupBoard$Logic;", true)
  | 6 => ("LookupBoard", "text", "LLookupBoard$PlanText;", true)
  | _ => ("LookupBoard", "hasSnapshot", "Z", false)
def tyX5 : Nat → FieldType := fun k => match k with
  | 0 => .object "LookupBoard$Board"
  | 1 => .object "LookupBoard$Board"
  | 2 => .object "LookupBoard$Board"
  | 3 => .object "LookupBoard$History"
  | 4 => .object "LookupBoard$Layer"
  | 5 => .object "LookupBoard$Logic"
  | 6 => .object "LookupBoard$PlanText"
  | _ => .boolean
abbrev wsX50 : List Cond := u_ws RX5 TX5 8
theorem nmX5 : ∀ a, a < 8 → ∀ b, b < 8 → a ≠ b → (TX5 a).2.1 ≠ (TX5 b).2.1 := by decide +kernel
theorem tyX5_ok : ∀ k, k < 8 → parseFieldDescriptor (TX5 k).2.2.1 = some (tyX5 k) := by decide +kernel
abbrev cX5_init : ByteArray := prog_1_method_1_code
def yX5_init : MethodName := ⟨RX5, "<init>", "()V"⟩
abbrev cX5_put : ByteArray := prog_1_method_2_code
def yX5_put : MethodName := ⟨RX5, "put", "(II)I"⟩
abbrev cX5_take : ByteArray := prog_1_method_3_code
def yX5_take : MethodName := ⟨RX5, "take", "(I)I"⟩
abbrev cX5_setTable : ByteArray := prog_1_method_4_code
def yX5_setTable : MethodName := ⟨RX5, "setTable", "(II)I"⟩
abbrev cX5_connect : ByteArray := prog_1_method_5_code
def yX5_connect : MethodName := ⟨RX5, "connect", "(III)I"⟩
abbrev cX5_swap : ByteArray := prog_1_method_6_code
def yX5_swap : MethodName := ⟨RX5, "swap", "(II)I"⟩
abbrev cX5_layAnew : ByteArray := prog_1_method_7_code
def yX5_layAnew : MethodName := ⟨RX5, "layAnew", "(I)I"⟩
abbrev cX5_set : ByteArray := prog_1_method_8_code
def yX5_set : MethodName := ⟨RX5, "set", "(II)I"⟩
abbrev cX5_load : ByteArray := prog_1_method_9_code
def yX5_load : MethodName := ⟨RX5, "load", "()I"⟩
abbrev cX5_type : ByteArray := prog_1_method_10_code
def yX5_type : MethodName := ⟨RX5, "type", "(C)I"⟩
abbrev cX5_clearText : ByteArray := prog_1_method_11_code
def yX5_clearText : MethodName := ⟨RX5, "clearText", "()I"⟩
abbrev cX5_undo : ByteArray := prog_1_method_12_code
def yX5_undo : MethodName := ⟨RX5, "undo", "()I"⟩
abbrev cX5_keep : ByteArray := prog_1_method_13_code
def yX5_keep : MethodName := ⟨RX5, "keep", "()I"⟩
abbrev cX5_restore : ByteArray := prog_1_method_14_code
def yX5_restore : MethodName := ⟨RX5, "restore", "()I"⟩
abbrev cX5_cell : ByteArray := prog_1_method_15_code
def yX5_cell : MethodName := ⟨RX5, "cell", "(II)I"⟩
abbrev cX5_path : ByteArray := prog_1_method_16_code
def yX5_path : MethodName := ⟨RX5, "path", "(III)I"⟩
abbrev cX5_held : ByteArray := prog_1_method_17_code
def yX5_held : MethodName := ⟨RX5, "held", "(II)I"⟩
abbrev cX5_answer : ByteArray := prog_1_method_18_code
def yX5_answer : MethodName := ⟨RX5, "answer", "(II)I"⟩
abbrev cX5_ones : ByteArray := prog_1_method_19_code
def yX5_ones : MethodName := ⟨RX5, "ones", "(I)I"⟩
abbrev cX5_ifSwap : ByteArray := prog_1_method_20_code
def yX5_ifSwap : MethodName := ⟨RX5, "ifSwap", "(II)I"⟩
abbrev cX5_bestSwap : ByteArray := prog_1_method_21_code
def yX5_bestSwap : MethodName := ⟨RX5, "bestSwap", "(I)I"⟩
abbrev cX5_bestOrder : ByteArray := prog_1_method_22_code
def yX5_bestOrder : MethodName := ⟨RX5, "bestOrder", "()I"⟩
abbrev cX5_count : ByteArray := prog_1_method_23_code
def yX5_count : MethodName := ⟨RX5, "count", "(I)I"⟩
abbrev cX5_trySwap : ByteArray := prog_1_method_24_code
def yX5_trySwap : MethodName := ⟨RX5, "trySwap", "(II)I"⟩
abbrev cX5_tryOrder : ByteArray := prog_1_method_25_code
def yX5_tryOrder : MethodName := ⟨RX5, "tryOrder", "(I)I"⟩
abbrev cX5_acceptTrial : ByteArray := prog_1_method_26_code
def yX5_acceptTrial : MethodName := ⟨RX5, "acceptTrial", "()V"⟩
abbrev cX5_isPlace : ByteArray := prog_1_method_27_code
def yX5_isPlace : MethodName := ⟨RX5, "isPlace", "(I)Z"⟩
abbrev cX5_isInput : ByteArray := prog_1_method_28_code
def yX5_isInput : MethodName := ⟨RX5, "isInput", "(I)Z"⟩
abbrev cX5_isWire : ByteArray := prog_1_method_29_code
def yX5_isWire : MethodName := ⟨RX5, "isWire", "(I)Z"⟩
abbrev cX5_isTable : ByteArray := prog_1_method_30_code
def yX5_isTable : MethodName := ⟨RX5, "isTable", "(I)Z"⟩
abbrev cX5_junctionOf : ByteArray := prog_1_method_31_code
def yX5_junctionOf : MethodName := ⟨RX5, "junctionOf", "(I)I"⟩
abbrev cX5_segmentAt : ByteArray := prog_1_method_32_code
def yX5_segmentAt : MethodName := ⟨RX5, "segmentAt", "(II)I"⟩
abbrev cX5_segmentBetween : ByteArray := prog_1_method_33_code
def yX5_segmentBetween : MethodName := ⟨RX5, "segmentBetween", "(II)I"⟩
abbrev cX5_distanceBetween : ByteArray := prog_1_method_34_code
def yX5_distanceBetween : MethodName := ⟨RX5, "distanceBetween", "(II)I"⟩
def RX6 : String := "LookupBoardModel"
def TX6 : u_T := fun k => match k with
  | 0 => ("LookupBoardModel", "now", "[I", true)
  | 1 => ("LookupBoardModel", "then", "[I", true)
  | 2 => ("LookupBoardModel", "past", "[I", true)
  | 3 => ("LookupBoardModel", "states", "I", false)
  | 4 => ("LookupBoardModel", "snapshot", "[I", true)
  | 5 => ("LookupBoardModel", "isKept", "Z", false)
  | 6 => ("LookupBoardModel", "text", "[C", true)
  | 7 => ("LookupBoardModel", "length", "I", false)
  | 8 => ("LookupBoardModel", "held", "[I", true)
  | 9 => ("LookupBoardModel", "far", "[I", true)
  | 10 => ("LookupBoardModel", "done", "[Z", true)
  | 11 => ("LookupBoardModel", "spot", "I", false)
  | 12 => ("LookupBoardModel", "told", "[I", true)
  | 13 => ("LookupBoardModel", "number", "I", false)
  | 14 => ("LookupBoardModel", "depth", "[I", true)
  | _ => ("LookupBoardModel", "bit", "[I", true)
def tyX6 : Nat → FieldType := fun k => match k with
  | 0 => .array .int
  | 1 => .array .int
  | 2 => .array .int
  | 3 => .int
  | 4 => .array .int
  | 5 => .boolean
  | 6 => .array .char
  | 7 => .int
  | 8 => .array .int
  | 9 => .array .int
  | 10 => .array .boolean
  | 11 => .int
  | 12 => .array .int
  | 13 => .int
  | 14 => .array .int
  | _ => .array .int
abbrev wsX60 : List Cond := u_ws RX6 TX6 16
theorem nmX6 : ∀ a, a < 16 → ∀ b, b < 16 → a ≠ b → (TX6 a).2.1 ≠ (TX6 b).2.1 := by decide +kernel
theorem tyX6_ok : ∀ k, k < 16 → parseFieldDescriptor (TX6 k).2.2.1 = some (tyX6 k) := by decide +kernel
abbrev cX6_init : ByteArray := prog_8_method_1_code
def yX6_init : MethodName := ⟨RX6, "<init>", "()V"⟩
abbrev cX6_in : ByteArray := prog_8_method_3_code
def yX6_in : MethodName := ⟨RX6, "in", "(III)Z"⟩
abbrev cX6_lays : ByteArray := prog_8_method_4_code
def yX6_lays : MethodName := ⟨RX6, "lays", "([II[II)V"⟩
abbrev cX6_records : ByteArray := prog_8_method_5_code
def yX6_records : MethodName := ⟨RX6, "records", "()V"⟩
abbrev cX6_isPlace : ByteArray := prog_8_method_6_code
def yX6_isPlace : MethodName := ⟨RX6, "isPlace", "(I)Z"⟩
abbrev cX6_isCell : ByteArray := prog_8_method_7_code
def yX6_isCell : MethodName := ⟨RX6, "isCell", "([II)Z"⟩
abbrev cX6_cells : ByteArray := prog_8_method_8_code
def yX6_cells : MethodName := ⟨RX6, "cells", "([I)I"⟩
abbrev cX6_junction : ByteArray := prog_8_method_9_code
def yX6_junction : MethodName := ⟨RX6, "junction", "(I)I"⟩
abbrev cX6_isWire : ByteArray := prog_8_method_10_code
def yX6_isWire : MethodName := ⟨RX6, "isWire", "([II)Z"⟩
abbrev cX6_areBeside : ByteArray := prog_8_method_11_code
def yX6_areBeside : MethodName := ⟨RX6, "areBeside", "(II)Z"⟩
abbrev cX6_segment : ByteArray := prog_8_method_12_code
def yX6_segment : MethodName := ⟨RX6, "segment", "(II)I"⟩
abbrev cX6_counts : ByteArray := prog_8_method_13_code
def yX6_counts : MethodName := ⟨RX6, "counts", "([I)V"⟩
abbrev cX6_mostHeld : ByteArray := prog_8_method_14_code
def yX6_mostHeld : MethodName := ⟨RX6, "mostHeld", "()I"⟩
abbrev cX6_cost : ByteArray := prog_8_method_15_code
def yX6_cost : MethodName := ⟨RX6, "cost", "([III)I"⟩
abbrev cX6_reaches : ByteArray := prog_8_method_16_code
def yX6_reaches : MethodName := ⟨RX6, "reaches", "([II)V"⟩
abbrev cX6_beside : ByteArray := prog_8_method_17_code
def yX6_beside : MethodName := ⟨RX6, "beside", "(II)I"⟩
abbrev cX6_nextOn : ByteArray := prog_8_method_18_code
def yX6_nextOn : MethodName := ⟨RX6, "nextOn", "([II)I"⟩
abbrev cX6_isLaid : ByteArray := prog_8_method_19_code
def yX6_isLaid : MethodName := ⟨RX6, "isLaid", "([II)Z"⟩
abbrev cX6_takesWire : ByteArray := prog_8_method_20_code
def yX6_takesWire : MethodName := ⟨RX6, "takesWire", "([II)V"⟩
abbrev cX6_segments : ByteArray := prog_8_method_21_code
def yX6_segments : MethodName := ⟨RX6, "segments", "([I)I"⟩
abbrev cX6_size : ByteArray := prog_8_method_22_code
def yX6_size : MethodName := ⟨RX6, "size", "(I)I"⟩
abbrev cX6_span : ByteArray := prog_8_method_23_code
def yX6_span : MethodName := ⟨RX6, "span", "([II)I"⟩
abbrev cX6_nextWire : ByteArray := prog_8_method_24_code
def yX6_nextWire : MethodName := ⟨RX6, "nextWire", "([II)I"⟩
abbrev cX6_laysAll : ByteArray := prog_8_method_25_code
def yX6_laysAll : MethodName := ⟨RX6, "laysAll", "([II)I"⟩
abbrev cX6_put : ByteArray := prog_8_method_26_code
def yX6_put : MethodName := ⟨RX6, "put", "(II)I"⟩
abbrev cX6_having : ByteArray := prog_8_method_27_code
def yX6_having : MethodName := ⟨RX6, "having", "(II)I"⟩
abbrev cX6_empties : ByteArray := prog_8_method_28_code
def yX6_empties : MethodName := ⟨RX6, "empties", "([II)V"⟩
abbrev cX6_take : ByteArray := prog_8_method_29_code
def yX6_take : MethodName := ⟨RX6, "take", "(I)I"⟩
abbrev cX6_becomes : ByteArray := prog_8_method_30_code
def yX6_becomes : MethodName := ⟨RX6, "becomes", "(II)I"⟩
abbrev cX6_setTable : ByteArray := prog_8_method_31_code
def yX6_setTable : MethodName := ⟨RX6, "setTable", "(II)I"⟩
abbrev cX6_isSource : ByteArray := prog_8_method_32_code
def yX6_isSource : MethodName := ⟨RX6, "isSource", "([II)Z"⟩
abbrev cX6_connect : ByteArray := prog_8_method_33_code
def yX6_connect : MethodName := ⟨RX6, "connect", "(III)I"⟩
abbrev cX6_isChange : ByteArray := prog_8_method_34_code
def yX6_isChange : MethodName := ⟨RX6, "isChange", "([III)Z"⟩
abbrev cX6_swapped : ByteArray := prog_8_method_35_code
def yX6_swapped : MethodName := ⟨RX6, "swapped", "(II)I"⟩
abbrev cX6_accepts : ByteArray := prog_8_method_36_code
def yX6_accepts : MethodName := ⟨RX6, "accepts", "(I)I"⟩
abbrev cX6_swap : ByteArray := prog_8_method_37_code
def yX6_swap : MethodName := ⟨RX6, "swap", "(II)I"⟩
abbrev cX6_ordered : ByteArray := prog_8_method_38_code
def yX6_ordered : MethodName := ⟨RX6, "ordered", "(I)I"⟩
abbrev cX6_layAnew : ByteArray := prog_8_method_39_code
def yX6_layAnew : MethodName := ⟨RX6, "layAnew", "(I)I"⟩
abbrev cX6_set : ByteArray := prog_8_method_40_code
def yX6_set : MethodName := ⟨RX6, "set", "(II)I"⟩
abbrev cX6_type : ByteArray := prog_8_method_41_code
def yX6_type : MethodName := ⟨RX6, "type", "(C)I"⟩
abbrev cX6_clearText : ByteArray := prog_8_method_42_code
def yX6_clearText : MethodName := ⟨RX6, "clearText", "()I"⟩
abbrev cX6_sees : ByteArray := prog_8_method_43_code
def yX6_sees : MethodName := ⟨RX6, "sees", "(II)Z"⟩
abbrev cX6_takes : ByteArray := prog_8_method_44_code
def yX6_takes : MethodName := ⟨RX6, "takes", "(I)Z"⟩
abbrev cX6_isNumber : ByteArray := prog_8_method_45_code
def yX6_isNumber : MethodName := ⟨RX6, "isNumber", "(I)Z"⟩
abbrev cX6_sixteenth : ByteArray := prog_8_method_46_code
def yX6_sixteenth : MethodName := ⟨RX6, "sixteenth", "()I"⟩
abbrev cX6_isSourceTold : ByteArray := prog_8_method_47_code
def yX6_isSourceTold : MethodName := ⟨RX6, "isSourceTold", "()Z"⟩
abbrev cX6_areSources : ByteArray := prog_8_method_48_code
def yX6_areSources : MethodName := ⟨RX6, "areSources", "(I)Z"⟩
abbrev cX6_isCellTold : ByteArray := prog_8_method_49_code
def yX6_isCellTold : MethodName := ⟨RX6, "isCellTold", "()Z"⟩
abbrev cX6_fault : ByteArray := prog_8_method_50_code
def yX6_fault : MethodName := ⟨RX6, "fault", "()I"⟩
abbrev cX6_load : ByteArray := prog_8_method_51_code
def yX6_load : MethodName := ⟨RX6, "load", "()I"⟩
abbrev cX6_undo : ByteArray := prog_8_method_52_code
def yX6_undo : MethodName := ⟨RX6, "undo", "()I"⟩
abbrev cX6_keep : ByteArray := prog_8_method_53_code
def yX6_keep : MethodName := ⟨RX6, "keep", "()I"⟩
abbrev cX6_restore : ByteArray := prog_8_method_54_code
def yX6_restore : MethodName := ⟨RX6, "restore", "()I"⟩
abbrev cX6_under : ByteArray := prog_8_method_55_code
def yX6_under : MethodName := ⟨RX6, "under", "(I)I"⟩
abbrev cX6_bitOf : ByteArray := prog_8_method_56_code
def yX6_bitOf : MethodName := ⟨RX6, "bitOf", "(II)I"⟩
abbrev cX6_lookedUp : ByteArray := prog_8_method_57_code
def yX6_lookedUp : MethodName := ⟨RX6, "lookedUp", "(II)I"⟩
abbrev cX6_answers : ByteArray := prog_8_method_58_code
def yX6_answers : MethodName := ⟨RX6, "answers", "(I)V"⟩
abbrev cX6_ofWires : ByteArray := prog_8_method_59_code
def yX6_ofWires : MethodName := ⟨RX6, "ofWires", "(I)I"⟩
abbrev cX6_cell : ByteArray := prog_8_method_60_code
def yX6_cell : MethodName := ⟨RX6, "cell", "(II)I"⟩
abbrev cX6_path : ByteArray := prog_8_method_61_code
def yX6_path : MethodName := ⟨RX6, "path", "(III)I"⟩
abbrev cX6_held : ByteArray := prog_8_method_62_code
def yX6_held : MethodName := ⟨RX6, "held", "(II)I"⟩
abbrev cX6_answer : ByteArray := prog_8_method_63_code
def yX6_answer : MethodName := ⟨RX6, "answer", "(II)I"⟩
abbrev cX6_ones : ByteArray := prog_8_method_64_code
def yX6_ones : MethodName := ⟨RX6, "ones", "(I)I"⟩
abbrev cX6_ifSwap : ByteArray := prog_8_method_65_code
def yX6_ifSwap : MethodName := ⟨RX6, "ifSwap", "(II)I"⟩
abbrev cX6_bestSwap : ByteArray := prog_8_method_66_code
def yX6_bestSwap : MethodName := ⟨RX6, "bestSwap", "(I)I"⟩
abbrev cX6_bestOrder : ByteArray := prog_8_method_67_code
def yX6_bestOrder : MethodName := ⟨RX6, "bestOrder", "()I"⟩
abbrev cX6_wires : ByteArray := prog_8_method_68_code
def yX6_wires : MethodName := ⟨RX6, "wires", "()I"⟩
abbrev cX6_full : ByteArray := prog_8_method_69_code
def yX6_full : MethodName := ⟨RX6, "full", "()I"⟩
abbrev cX6_ofDepths : ByteArray := prog_8_method_70_code
def yX6_ofDepths : MethodName := ⟨RX6, "ofDepths", "(Z)I"⟩
abbrev cX6_most : ByteArray := prog_8_method_71_code
def yX6_most : MethodName := ⟨RX6, "most", "()I"⟩
abbrev cX6_count : ByteArray := prog_8_method_72_code
def yX6_count : MethodName := ⟨RX6, "count", "(I)I"⟩
def RJ9 : String := "java/lang/Math"
def TJ9 : u_T := fun k => match k with
  | _ => ("", "", "", false)
def tyJ9 : Nat → FieldType := fun k => match k with
  | _ => .int
abbrev wsJ90 : List Cond := u_ws RJ9 TJ9 0
theorem nmJ9 : ∀ a, a < 0 → ∀ b, b < 0 → a ≠ b → (TJ9 a).2.1 ≠ (TJ9 b).2.1 := by decide +kernel
theorem tyJ9_ok : ∀ k, k < 0 → parseFieldDescriptor (TJ9 k).2.2.1 = some (tyJ9 k) := by decide +kernel
abbrev cJ9_abs_0f7a4 : ByteArray := prog_9_method_59_code
def yJ9_abs_0f7a4 : MethodName := ⟨RJ9, "abs", "(I)I"⟩
abbrev cJ9_max_7cf53 : ByteArray := prog_9_method_65_code
def yJ9_max_7cf53 : MethodName := ⟨RJ9, "max", "(II)I"⟩
def RJ10 : String := "java/lang/System"
def TJ10 : u_T := fun k => match k with
  | _ => ("", "", "", false)
def tyJ10 : Nat → FieldType := fun k => match k with
  | _ => .int
abbrev wsJ100 : List Cond := u_ws RJ10 TJ10 0
theorem nmJ10 : ∀ a, a < 0 → ∀ b, b < 0 → a ≠ b → (TJ10 a).2.1 ≠ (TJ10 b).2.1 := by decide +kernel
theorem tyJ10_ok : ∀ k, k < 0 → parseFieldDescriptor (TJ10 k).2.2.1 = some (tyJ10 k) := by decide +kernel
def RJ7 : String := "java/util/Arrays"
def TJ7 : u_T := fun k => match k with
  | _ => ("", "", "", false)
def tyJ7 : Nat → FieldType := fun k => match k with
  | _ => .int
abbrev wsJ70 : List Cond := u_ws RJ7 TJ7 0
theorem nmJ7 : ∀ a, a < 0 → ∀ b, b < 0 → a ≠ b → (TJ7 a).2.1 ≠ (TJ7 b).2.1 := by decide +kernel
theorem tyJ7_ok : ∀ k, k < 0 → parseFieldDescriptor (TJ7 k).2.2.1 = some (tyJ7 k) := by decide +kernel
abbrev cJ7_fill_53178 : ByteArray := prog_11_method_103_code
def yJ7_fill_53178 : MethodName := ⟨RJ7, "fill", "([II)V"⟩
def RL : String := "LookupBoardLaw"
abbrev cL_law : ByteArray := code
def yL_law : MethodName := ⟨RL, "law", "([I)Z"⟩
def wsJ7_fill_53178 : List Cond := .code yJ7_fill_53178 cJ7_fill_53178 4 none :: ([])
def wsX0_init : List Cond := .code yX0_init cX0_init 1 none :: ([.methodLink RX0 3 objectInit, .instanceMethod objectInit, .code objectInit ⟨#[0xb1]⟩ 1 none, .arrayClass .int, .fieldLink RX0 9 "LookupBoard$Board" "tables" "[I", .fieldLink RX0 15 "LookupBoard$Board" "sources" "[I", .fieldLink RX0 18 "LookupBoard$Board" "lengths" "[I", .fieldLink RX0 21 "LookupBoard$Board" "junctions" "[I", .fieldLink RX0 24 "LookupBoard$Board" "wiresHeld" "[I", .fieldLink RX0 27 "LookupBoard$Board" "capacity" "I", .fieldLink RX0 31 "LookupBoard$Board" "surcharge" "I", .methodLink RX0 34 yJ7_fill_53178, .static yJ7_fill_53178, .initialized RJ7, .code yJ7_fill_53178 cJ7_fill_53178 4 none] ++ wsX00)
def wsX0_copyFrom : List Cond := .code yX0_copyFrom cX0_copyFrom 2 none :: ([.fieldLink RX0 9 "LookupBoard$Board" "tables" "[I", .methodLink RX0 40 arraycopyName, .native arraycopyName, .static arraycopyName, .initialized "java/lang/System", .fieldLink RX0 15 "LookupBoard$Board" "sources" "[I", .fieldLink RX0 18 "LookupBoard$Board" "lengths" "[I", .fieldLink RX0 21 "LookupBoard$Board" "junctions" "[I", .fieldLink RX0 24 "LookupBoard$Board" "wiresHeld" "[I", .fieldLink RX0 27 "LookupBoard$Board" "capacity" "I", .fieldLink RX0 31 "LookupBoard$Board" "surcharge" "I"] ++ wsX00)
def wsX5_isPlace : List Cond := .code yX5_isPlace cX5_isPlace 1 (some .boolean) :: ([])
def wsX0_hasCell : List Cond := .code yX0_hasCell cX0_hasCell 2 (some .boolean) :: ([.fieldLink RX0 9 "LookupBoard$Board" "tables" "[I", .static yX5_isPlace, .initialized RX5, .code yX5_isPlace cX5_isPlace 1 (some .boolean)] ++ wsX00)
def wsX0_tableOf : List Cond := .code yX0_tableOf cX0_tableOf 2 (some .int) :: ([.fieldLink RX0 9 "LookupBoard$Board" "tables" "[I", .static yX5_isPlace, .initialized RX5, .code yX5_isPlace cX5_isPlace 1 (some .boolean)] ++ wsX00)
def wsX0_changeTable : List Cond := .code yX0_changeTable cX0_changeTable 3 none :: ([.fieldLink RX0 9 "LookupBoard$Board" "tables" "[I", .static yX5_isPlace, .initialized RX5, .code yX5_isPlace cX5_isPlace 1 (some .boolean)] ++ wsX00)
def wsX5_isWire : List Cond := .code yX5_isWire cX5_isWire 1 (some .boolean) :: ([])
def wsX0_sourceOf : List Cond := .code yX0_sourceOf cX0_sourceOf 2 (some .int) :: ([.fieldLink RX0 15 "LookupBoard$Board" "sources" "[I", .static yX5_isWire, .initialized RX5, .code yX5_isWire cX5_isWire 1 (some .boolean)] ++ wsX00)
def wsX0_changeSource : List Cond := .code yX0_changeSource cX0_changeSource 3 none :: ([.fieldLink RX0 15 "LookupBoard$Board" "sources" "[I", .static yX5_isWire, .initialized RX5, .code yX5_isWire cX5_isWire 1 (some .boolean)] ++ wsX00)
def wsX0_isSource : List Cond := .code yX0_isSource cX0_isSource 2 (some .boolean) :: ([.methodLink RX0 53 yX0_hasCell, .instanceMethod yX0_hasCell, .selects RX0 yX0_hasCell yX0_hasCell, .initialized RX0, .code yX0_hasCell cX0_hasCell 2 (some .boolean), .fieldLink RX0 9 "LookupBoard$Board" "tables" "[I", .static yX5_isPlace, .initialized RX5, .code yX5_isPlace cX5_isPlace 1 (some .boolean)] ++ wsX00)
def wsX0_hasAllSources : List Cond := .code yX0_hasAllSources cX0_hasAllSources 2 (some .boolean) :: ([.fieldLink RX0 15 "LookupBoard$Board" "sources" "[I", .methodLink RX0 56 yX0_isSource, .instanceMethod yX0_isSource, .selects RX0 yX0_isSource yX0_isSource, .initialized RX0, .code yX0_isSource cX0_isSource 2 (some .boolean), .methodLink RX0 53 yX0_hasCell, .instanceMethod yX0_hasCell, .selects RX0 yX0_hasCell yX0_hasCell, .code yX0_hasCell cX0_hasCell 2 (some .boolean), .fieldLink RX0 9 "LookupBoard$Board" "tables" "[I", .static yX5_isPlace, .initialized RX5, .code yX5_isPlace cX5_isPlace 1 (some .boolean)] ++ wsX00)
def wsX0_lengthOf : List Cond := .code yX0_lengthOf cX0_lengthOf 2 (some .int) :: ([.fieldLink RX0 18 "LookupBoard$Board" "lengths" "[I", .static yX5_isWire, .initialized RX5, .code yX5_isWire cX5_isWire 1 (some .boolean)] ++ wsX00)
def wsX5_junctionOf : List Cond := .code yX5_junctionOf cX5_junctionOf 1 (some .int) :: ([])
def wsX0_junctionAt : List Cond := .code yX0_junctionAt cX0_junctionAt 5 (some .int) :: ([.fieldLink RX0 21 "LookupBoard$Board" "junctions" "[I", .methodLink RX0 77 yX0_sourceOf, .instanceMethod yX0_sourceOf, .selects RX0 yX0_sourceOf yX0_sourceOf, .initialized RX0, .code yX0_sourceOf cX0_sourceOf 2 (some .int), .fieldLink RX0 15 "LookupBoard$Board" "sources" "[I", .static yX5_isWire, .initialized RX5, .code yX5_isWire cX5_isWire 1 (some .boolean), .static yX5_junctionOf, .code yX5_junctionOf cX5_junctionOf 1 (some .int), .methodLink RX0 86 yX0_lengthOf, .instanceMethod yX0_lengthOf, .selects RX0 yX0_lengthOf yX0_lengthOf, .code yX0_lengthOf cX0_lengthOf 2 (some .int), .fieldLink RX0 18 "LookupBoard$Board" "lengths" "[I"] ++ wsX00)
def wsX5_segmentAt : List Cond := .code yX5_segmentAt cX5_segmentAt 4 (some .int) :: ([])
def wsX5_segmentBetween : List Cond := .code yX5_segmentBetween cX5_segmentBetween 3 (some .int) :: ([.fieldLink RX5 213 "LookupBoard" "STEPS" "[I", .methodLink RX5 54 yX5_isPlace, .static yX5_isPlace, .initialized RX5, .code yX5_isPlace cX5_isPlace 1 (some .boolean), .methodLink RX5 217 yX5_segmentAt, .static yX5_segmentAt, .code yX5_segmentAt cX5_segmentAt 4 (some .int)])
def wsX0_removeWire_r1 : List Cond := [Cond.fieldLink RX0 24 "LookupBoard$Board" "wiresHeld" "[I", Cond.fieldLink RX0 18 "LookupBoard$Board" "lengths" "[I", Cond.methodLink RX0 86 yX0_lengthOf, Cond.instanceMethod yX0_lengthOf, Cond.selects RX0 yX0_lengthOf yX0_lengthOf, Cond.initialized RX0, Cond.code yX0_lengthOf cX0_lengthOf 2 (some .int), Cond.static yX5_isWire, Cond.initialized RX5, Cond.code yX5_isWire cX5_isWire 1 (some .boolean), Cond.methodLink RX0 96 yX0_junctionAt, Cond.instanceMethod yX0_junctionAt, Cond.selects RX0 yX0_junctionAt yX0_junctionAt, Cond.code yX0_junctionAt cX0_junctionAt 5 (some .int), Cond.fieldLink RX0 21 "LookupBoard$Board" "junctions" "[I", Cond.methodLink RX0 77 yX0_sourceOf, Cond.instanceMethod yX0_sourceOf, Cond.selects RX0 yX0_sourceOf yX0_sourceOf, Cond.code yX0_sourceOf cX0_sourceOf 2 (some .int), Cond.fieldLink RX0 15 "LookupBoard$Board" "sources" "[I", Cond.static yX5_junctionOf, Cond.code yX5_junctionOf cX5_junctionOf 1 (some .int), Cond.static yX5_segmentBetween, Cond.code yX5_segmentBetween cX5_segmentBetween 3 (some .int)]
def wsX0_removeWire_r2 : List Cond := [Cond.fieldLink RX5 213 "LookupBoard" "STEPS" "[I", Cond.methodLink RX5 54 yX5_isPlace, Cond.static yX5_isPlace, Cond.code yX5_isPlace cX5_isPlace 1 (some .boolean), Cond.methodLink RX5 217 yX5_segmentAt, Cond.static yX5_segmentAt, Cond.code yX5_segmentAt cX5_segmentAt 4 (some .int)]
def wsX0_removeWire : List Cond := .code yX0_removeWire cX0_removeWire 4 none :: ((wsX0_removeWire_r1 ++ wsX0_removeWire_r2) ++ wsX00)
def wsX0_removeCell_r1 : List Cond := [Cond.methodLink RX0 59 yX0_removeWire, Cond.instanceMethod yX0_removeWire, Cond.selects RX0 yX0_removeWire yX0_removeWire, Cond.initialized RX0, Cond.code yX0_removeWire cX0_removeWire 4 none, Cond.fieldLink RX0 24 "LookupBoard$Board" "wiresHeld" "[I", Cond.fieldLink RX0 18 "LookupBoard$Board" "lengths" "[I", Cond.methodLink RX0 86 yX0_lengthOf, Cond.instanceMethod yX0_lengthOf, Cond.selects RX0 yX0_lengthOf yX0_lengthOf, Cond.code yX0_lengthOf cX0_lengthOf 2 (some .int), Cond.static yX5_isWire, Cond.initialized RX5, Cond.code yX5_isWire cX5_isWire 1 (some .boolean), Cond.methodLink RX0 96 yX0_junctionAt, Cond.instanceMethod yX0_junctionAt, Cond.selects RX0 yX0_junctionAt yX0_junctionAt, Cond.code yX0_junctionAt cX0_junctionAt 5 (some .int), Cond.fieldLink RX0 21 "LookupBoard$Board" "junctions" "[I", Cond.methodLink RX0 77 yX0_sourceOf, Cond.instanceMethod yX0_sourceOf, Cond.selects RX0 yX0_sourceOf yX0_sourceOf, Cond.code yX0_sourceOf cX0_sourceOf 2 (some .int), Cond.fieldLink RX0 15 "LookupBoard$Board" "sources" "[I"]
def wsX0_removeCell_r2 : List Cond := [Cond.static yX5_junctionOf, Cond.code yX5_junctionOf cX5_junctionOf 1 (some .int), Cond.static yX5_segmentBetween, Cond.code yX5_segmentBetween cX5_segmentBetween 3 (some .int), Cond.fieldLink RX5 213 "LookupBoard" "STEPS" "[I", Cond.methodLink RX5 54 yX5_isPlace, Cond.static yX5_isPlace, Cond.code yX5_isPlace cX5_isPlace 1 (some .boolean), Cond.methodLink RX5 217 yX5_segmentAt, Cond.static yX5_segmentAt, Cond.code yX5_segmentAt cX5_segmentAt 4 (some .int), Cond.methodLink RX0 63 yX0_changeSource, Cond.instanceMethod yX0_changeSource, Cond.selects RX0 yX0_changeSource yX0_changeSource, Cond.code yX0_changeSource cX0_changeSource 3 none, Cond.methodLink RX0 67 yX0_changeTable, Cond.instanceMethod yX0_changeTable, Cond.selects RX0 yX0_changeTable yX0_changeTable, Cond.code yX0_changeTable cX0_changeTable 3 none, Cond.fieldLink RX0 9 "LookupBoard$Board" "tables" "[I"]
def wsX0_removeCell : List Cond := .code yX0_removeCell cX0_removeCell 3 none :: ((wsX0_removeCell_r1 ++ wsX0_removeCell_r2) ++ wsX00)
def wsX0_removeAllWires : List Cond := .code yX0_removeAllWires cX0_removeAllWires 1 none :: ([.fieldLink RX0 18 "LookupBoard$Board" "lengths" "[I", .fieldLink RX0 24 "LookupBoard$Board" "wiresHeld" "[I", .methodLink RX0 34 yJ7_fill_53178, .static yJ7_fill_53178, .initialized RJ7, .code yJ7_fill_53178 cJ7_fill_53178 4 none] ++ wsX00)
def wsX0_removeAllCells : List Cond := .code yX0_removeAllCells cX0_removeAllCells 1 none :: ([.fieldLink RX0 9 "LookupBoard$Board" "tables" "[I", .fieldLink RX0 15 "LookupBoard$Board" "sources" "[I", .methodLink RX0 70 yX0_removeAllWires, .instanceMethod yX0_removeAllWires, .selects RX0 yX0_removeAllWires yX0_removeAllWires, .initialized RX0, .code yX0_removeAllWires cX0_removeAllWires 1 none, .fieldLink RX0 18 "LookupBoard$Board" "lengths" "[I", .fieldLink RX0 24 "LookupBoard$Board" "wiresHeld" "[I", .methodLink RX0 34 yJ7_fill_53178, .static yJ7_fill_53178, .initialized RJ7, .code yJ7_fill_53178 cJ7_fill_53178 4 none] ++ wsX00)
def wsX0_cells : List Cond := .code yX0_cells cX0_cells 3 (some .int) :: ([.methodLink RX0 53 yX0_hasCell, .instanceMethod yX0_hasCell, .selects RX0 yX0_hasCell yX0_hasCell, .initialized RX0, .code yX0_hasCell cX0_hasCell 2 (some .boolean), .fieldLink RX0 9 "LookupBoard$Board" "tables" "[I", .static yX5_isPlace, .initialized RX5, .code yX5_isPlace cX5_isPlace 1 (some .boolean)] ++ wsX00)
def wsX0_uses : List Cond := .code yX0_uses cX0_uses 4 (some .int) :: ([.fieldLink RX0 15 "LookupBoard$Board" "sources" "[I"] ++ wsX00)
def wsX0_usesByOthers : List Cond := .code yX0_usesByOthers cX0_usesByOthers 4 (some .int) :: ([.methodLink RX0 73 yX0_uses, .instanceMethod yX0_uses, .selects RX0 yX0_uses yX0_uses, .initialized RX0, .code yX0_uses cX0_uses 4 (some .int), .fieldLink RX0 15 "LookupBoard$Board" "sources" "[I", .methodLink RX0 77 yX0_sourceOf, .instanceMethod yX0_sourceOf, .selects RX0 yX0_sourceOf yX0_sourceOf, .code yX0_sourceOf cX0_sourceOf 2 (some .int), .static yX5_isWire, .initialized RX5, .code yX5_isWire cX5_isWire 1 (some .boolean)] ++ wsX00)
def wsX0_exchange : List Cond := .code yX0_exchange cX0_exchange 6 none :: ([.fieldLink RX0 15 "LookupBoard$Board" "sources" "[I", .methodLink RX0 80 yX0_tableOf, .instanceMethod yX0_tableOf, .selects RX0 yX0_tableOf yX0_tableOf, .initialized RX0, .code yX0_tableOf cX0_tableOf 2 (some .int), .fieldLink RX0 9 "LookupBoard$Board" "tables" "[I", .static yX5_isPlace, .initialized RX5, .code yX5_isPlace cX5_isPlace 1 (some .boolean), .methodLink RX0 67 yX0_changeTable, .instanceMethod yX0_changeTable, .selects RX0 yX0_changeTable yX0_changeTable, .code yX0_changeTable cX0_changeTable 3 none, .methodLink RX0 77 yX0_sourceOf, .instanceMethod yX0_sourceOf, .selects RX0 yX0_sourceOf yX0_sourceOf, .code yX0_sourceOf cX0_sourceOf 2 (some .int), .static yX5_isWire, .code yX5_isWire cX5_isWire 1 (some .boolean), .methodLink RX0 63 yX0_changeSource, .instanceMethod yX0_changeSource, .selects RX0 yX0_changeSource yX0_changeSource, .code yX0_changeSource cX0_changeSource 3 none] ++ wsX00)
def wsX0_wires : List Cond := .code yX0_wires cX0_wires 3 (some .int) :: ([.fieldLink RX0 15 "LookupBoard$Board" "sources" "[I", .static yX5_junctionOf, .initialized RX5, .code yX5_junctionOf cX5_junctionOf 1 (some .int)] ++ wsX00)
def wsX0_segmentsOfCell : List Cond := .code yX0_segmentsOfCell cX0_segmentsOfCell 4 (some .int) :: ([.methodLink RX0 86 yX0_lengthOf, .instanceMethod yX0_lengthOf, .selects RX0 yX0_lengthOf yX0_lengthOf, .initialized RX0, .code yX0_lengthOf cX0_lengthOf 2 (some .int), .fieldLink RX0 18 "LookupBoard$Board" "lengths" "[I", .static yX5_isWire, .initialized RX5, .code yX5_isWire cX5_isWire 1 (some .boolean)] ++ wsX00)
def wsX0_segmentsOfAll : List Cond := .code yX0_segmentsOfAll cX0_segmentsOfAll 3 (some .int) :: ([.fieldLink RX0 18 "LookupBoard$Board" "lengths" "[I"] ++ wsX00)
def wsX5_distanceBetween : List Cond := .code yX5_distanceBetween cX5_distanceBetween 2 (some .int) :: ([.methodLink RX5 220 Lib.Math.abs.name, .static Lib.Math.abs.name, .initialized "java/lang/Math", .code Lib.Math.abs.name Lib.Math.abs.code 1 (some .int)])
def wsX0_distanceOf : List Cond := .code yX0_distanceOf cX0_distanceOf 3 (some .int) :: ([.methodLink RX0 77 yX0_sourceOf, .instanceMethod yX0_sourceOf, .selects RX0 yX0_sourceOf yX0_sourceOf, .initialized RX0, .code yX0_sourceOf cX0_sourceOf 2 (some .int), .fieldLink RX0 15 "LookupBoard$Board" "sources" "[I", .static yX5_isWire, .initialized RX5, .code yX5_isWire cX5_isWire 1 (some .boolean), .static yX5_junctionOf, .code yX5_junctionOf cX5_junctionOf 1 (some .int), .static yX5_distanceBetween, .code yX5_distanceBetween cX5_distanceBetween 2 (some .int), .methodLink RX5 220 Lib.Math.abs.name, .static Lib.Math.abs.name, .initialized "java/lang/Math", .code Lib.Math.abs.name Lib.Math.abs.code 1 (some .int)] ++ wsX00)
def wsX0_startWire : List Cond := .code yX0_startWire cX0_startWire 3 none :: ([.fieldLink RX0 18 "LookupBoard$Board" "lengths" "[I", .fieldLink RX0 21 "LookupBoard$Board" "junctions" "[I", .static yX5_isWire, .initialized RX5, .code yX5_isWire cX5_isWire 1 (some .boolean)] ++ wsX00)
def wsX0_extendWire : List Cond := .code yX0_extendWire cX0_extendWire 4 none :: ([.fieldLink RX0 18 "LookupBoard$Board" "lengths" "[I", .fieldLink RX0 21 "LookupBoard$Board" "junctions" "[I", .fieldLink RX0 24 "LookupBoard$Board" "wiresHeld" "[I", .static yX5_isWire, .initialized RX5, .code yX5_isWire cX5_isWire 1 (some .boolean), .static yX5_segmentBetween, .code yX5_segmentBetween cX5_segmentBetween 3 (some .int), .fieldLink RX5 213 "LookupBoard" "STEPS" "[I", .methodLink RX5 54 yX5_isPlace, .static yX5_isPlace, .code yX5_isPlace cX5_isPlace 1 (some .boolean), .methodLink RX5 217 yX5_segmentAt, .static yX5_segmentAt, .code yX5_segmentAt cX5_segmentAt 4 (some .int)] ++ wsX00)
def wsX0_heldBy : List Cond := .code yX0_heldBy cX0_heldBy 2 (some .int) :: ([.fieldLink RX0 24 "LookupBoard$Board" "wiresHeld" "[I"] ++ wsX00)
def wsX0_priceOf : List Cond := .code yX0_priceOf cX0_priceOf 2 (some .int) :: ([.fieldLink RX0 24 "LookupBoard$Board" "wiresHeld" "[I", .fieldLink RX0 27 "LookupBoard$Board" "capacity" "I", .constant RX0 99 (1000000), .fieldLink RX0 31 "LookupBoard$Board" "surcharge" "I"] ++ wsX00)
def wsX0_fullSegments : List Cond := .code yX0_fullSegments cX0_fullSegments 3 (some .int) :: ([.fieldLink RX0 24 "LookupBoard$Board" "wiresHeld" "[I", .fieldLink RX0 27 "LookupBoard$Board" "capacity" "I"] ++ wsX00)
def wsX0_mostHeld : List Cond := .code yX0_mostHeld cX0_mostHeld 3 (some .int) :: ([.fieldLink RX0 24 "LookupBoard$Board" "wiresHeld" "[I", .methodLink RX0 100 Lib.Math.max.name, .static Lib.Math.max.name, .initialized "java/lang/Math", .code Lib.Math.max.name Lib.Math.max.code 2 (some .int)] ++ wsX00)
def wsX0_setting : List Cond := .code yX0_setting cX0_setting 2 (some .int) :: ([.fieldLink RX0 27 "LookupBoard$Board" "capacity" "I", .fieldLink RX0 31 "LookupBoard$Board" "surcharge" "I"] ++ wsX00)
def wsX0_changeSetting : List Cond := .code yX0_changeSetting cX0_changeSetting 3 none :: ([.fieldLink RX0 27 "LookupBoard$Board" "capacity" "I", .fieldLink RX0 31 "LookupBoard$Board" "surcharge" "I"] ++ wsX00)
def wsX1_init : List Cond := .code yX1_init cX1_init 2 none :: ([.methodLink RX1 3 objectInit, .instanceMethod objectInit, .code objectInit ⟨#[0xb1]⟩ 1 none, .classLink RX1 9 RX0, .fieldLink RX1 11 "LookupBoard$History" "states" "[LLookupBoard$Board;", .fieldLink RX1 17 "LookupBoard$History" "size" "I", .instantiable RX0 7, .initialized RX0, .methodLink RX1 21 yX0_init, .instanceMethod yX0_init, .code yX0_init cX0_init 1 none, .methodLink RX0 3 objectInit, .arrayClass .int, .fieldLink RX0 9 "LookupBoard$Board" "tables" "[I", .fieldLink RX0 15 "LookupBoard$Board" "sources" "[I", .fieldLink RX0 18 "LookupBoard$Board" "lengths" "[I", .fieldLink RX0 21 "LookupBoard$Board" "junctions" "[I", .fieldLink RX0 24 "LookupBoard$Board" "wiresHeld" "[I", .fieldLink RX0 27 "LookupBoard$Board" "capacity" "I", .fieldLink RX0 31 "LookupBoard$Board" "surcharge" "I", .methodLink RX0 34 yJ7_fill_53178, .static yJ7_fill_53178, .initialized RJ7, .code yJ7_fill_53178 cJ7_fill_53178 4 none] ++ wsX10 ++ wsX00)
def wsX1_size : List Cond := .code yX1_size cX1_size 1 (some .int) :: ([.fieldLink RX1 17 "LookupBoard$History" "size" "I"] ++ wsX10)
def wsX1_dropOldest : List Cond := .code yX1_dropOldest cX1_dropOldest 3 none :: ([.fieldLink RX1 11 "LookupBoard$History" "states" "[LLookupBoard$Board;", .fieldLink RX1 17 "LookupBoard$History" "size" "I"] ++ wsX10)
def wsX1_stateAt : List Cond := .code yX1_stateAt cX1_stateAt 2 (some (.object "LookupBoard$Board")) :: ([.fieldLink RX1 11 "LookupBoard$History" "states" "[LLookupBoard$Board;"] ++ wsX10)
def wsX1_remember_r1 : List Cond := [Cond.fieldLink RX1 17 "LookupBoard$History" "size" "I", Cond.methodLink RX1 22 yX1_dropOldest, Cond.instanceMethod yX1_dropOldest, Cond.selects RX1 yX1_dropOldest yX1_dropOldest, Cond.initialized RX1, Cond.code yX1_dropOldest cX1_dropOldest 3 none, Cond.fieldLink RX1 11 "LookupBoard$History" "states" "[LLookupBoard$Board;", Cond.methodLink RX1 25 yX1_stateAt, Cond.instanceMethod yX1_stateAt, Cond.selects RX1 yX1_stateAt yX1_stateAt, Cond.code yX1_stateAt cX1_stateAt 2 (some (.object "LookupBoard$Board")), Cond.methodLink RX1 29 yX0_copyFrom, Cond.instanceMethod yX0_copyFrom, Cond.selects RX0 yX0_copyFrom yX0_copyFrom, Cond.initialized RX0, Cond.code yX0_copyFrom cX0_copyFrom 2 none, Cond.fieldLink RX0 9 "LookupBoard$Board" "tables" "[I", Cond.methodLink RX0 40 arraycopyName, Cond.native arraycopyName, Cond.static arraycopyName, Cond.initialized "java/lang/System", Cond.fieldLink RX0 15 "LookupBoard$Board" "sources" "[I", Cond.fieldLink RX0 18 "LookupBoard$Board" "lengths" "[I", Cond.fieldLink RX0 21 "LookupBoard$Board" "junctions" "[I"]
def wsX1_remember_r2 : List Cond := [Cond.fieldLink RX0 24 "LookupBoard$Board" "wiresHeld" "[I", Cond.fieldLink RX0 27 "LookupBoard$Board" "capacity" "I", Cond.fieldLink RX0 31 "LookupBoard$Board" "surcharge" "I"]
def wsX1_remember : List Cond := .code yX1_remember cX1_remember 3 none :: ((wsX1_remember_r1 ++ wsX1_remember_r2) ++ wsX10 ++ wsX00)
def wsX1_bringBack : List Cond := .code yX1_bringBack cX1_bringBack 3 (some .boolean) :: ([.fieldLink RX1 17 "LookupBoard$History" "size" "I", .methodLink RX1 25 yX1_stateAt, .instanceMethod yX1_stateAt, .selects RX1 yX1_stateAt yX1_stateAt, .initialized RX1, .code yX1_stateAt cX1_stateAt 2 (some (.object "LookupBoard$Board")), .fieldLink RX1 11 "LookupBoard$History" "states" "[LLookupBoard$Board;", .methodLink RX1 29 yX0_copyFrom, .instanceMethod yX0_copyFrom, .selects RX0 yX0_copyFrom yX0_copyFrom, .initialized RX0, .code yX0_copyFrom cX0_copyFrom 2 none, .fieldLink RX0 9 "LookupBoard$Board" "tables" "[I", .methodLink RX0 40 arraycopyName, .native arraycopyName, .static arraycopyName, .initialized "java/lang/System", .fieldLink RX0 15 "LookupBoard$Board" "sources" "[I", .fieldLink RX0 18 "LookupBoard$Board" "lengths" "[I", .fieldLink RX0 21 "LookupBoard$Board" "junctions" "[I", .fieldLink RX0 24 "LookupBoard$Board" "wiresHeld" "[I", .fieldLink RX0 27 "LookupBoard$Board" "capacity" "I", .fieldLink RX0 31 "LookupBoard$Board" "surcharge" "I"] ++ wsX10 ++ wsX00)
def wsX2_init : List Cond := .code yX2_init cX2_init 1 none :: ([.methodLink RX2 3 objectInit, .instanceMethod objectInit, .code objectInit ⟨#[0xb1]⟩ 1 none, .arrayClass .int, .fieldLink RX2 9 "LookupBoard$Layer" "costs" "[I"] ++ wsX20)
def wsX2_costOver : List Cond := .code yX2_costOver cX2_costOver 6 (some .int) :: ([.constant RX2 46 (1000000), .fieldLink RX2 9 "LookupBoard$Layer" "costs" "[I", .static yX5_segmentAt, .initialized RX5, .code yX5_segmentAt cX5_segmentAt 4 (some .int), .static yX5_isPlace, .code yX5_isPlace cX5_isPlace 1 (some .boolean), .methodLink RX2 75 yX0_priceOf, .instanceMethod yX0_priceOf, .selects RX0 yX0_priceOf yX0_priceOf, .initialized RX0, .code yX0_priceOf cX0_priceOf 2 (some .int), .fieldLink RX0 24 "LookupBoard$Board" "wiresHeld" "[I", .fieldLink RX0 27 "LookupBoard$Board" "capacity" "I", .constant RX0 99 (1000000), .fieldLink RX0 31 "LookupBoard$Board" "surcharge" "I"] ++ wsX20 ++ wsX00)
def wsX2_measureCosts_r1 : List Cond := [Cond.fieldLink RX2 9 "LookupBoard$Layer" "costs" "[I", Cond.constant RX2 46 (1000000), Cond.methodLink RX2 58 yJ7_fill_53178, Cond.static yJ7_fill_53178, Cond.initialized RJ7, Cond.code yJ7_fill_53178 cJ7_fill_53178 4 none, Cond.static yX5_isPlace, Cond.initialized RX5, Cond.code yX5_isPlace cX5_isPlace 1 (some .boolean), Cond.methodLink RX2 64 yX2_costOver, Cond.instanceMethod yX2_costOver, Cond.selects RX2 yX2_costOver yX2_costOver, Cond.initialized RX2, Cond.code yX2_costOver cX2_costOver 6 (some .int), Cond.static yX5_segmentAt, Cond.code yX5_segmentAt cX5_segmentAt 4 (some .int), Cond.methodLink RX2 75 yX0_priceOf, Cond.instanceMethod yX0_priceOf, Cond.selects RX0 yX0_priceOf yX0_priceOf, Cond.initialized RX0, Cond.code yX0_priceOf cX0_priceOf 2 (some .int), Cond.fieldLink RX0 24 "LookupBoard$Board" "wiresHeld" "[I", Cond.fieldLink RX0 27 "LookupBoard$Board" "capacity" "I", Cond.constant RX0 99 (1000000)]
def wsX2_measureCosts_r2 : List Cond := [Cond.fieldLink RX0 31 "LookupBoard$Board" "surcharge" "I"]
def wsX2_measureCosts : List Cond := .code yX2_measureCosts cX2_measureCosts 8 none :: ((wsX2_measureCosts_r1 ++ wsX2_measureCosts_r2) ++ wsX20 ++ wsX00)
def wsX2_nextJunction : List Cond := .code yX2_nextJunction cX2_nextJunction 4 (some .int) :: ([.fieldLink RX2 9 "LookupBoard$Layer" "costs" "[I", .static yX5_isPlace, .initialized RX5, .code yX5_isPlace cX5_isPlace 1 (some .boolean), .methodLink RX2 64 yX2_costOver, .instanceMethod yX2_costOver, .selects RX2 yX2_costOver yX2_costOver, .initialized RX2, .code yX2_costOver cX2_costOver 6 (some .int), .constant RX2 46 (1000000), .static yX5_segmentAt, .code yX5_segmentAt cX5_segmentAt 4 (some .int), .methodLink RX2 75 yX0_priceOf, .instanceMethod yX0_priceOf, .selects RX0 yX0_priceOf yX0_priceOf, .initialized RX0, .code yX0_priceOf cX0_priceOf 2 (some .int), .fieldLink RX0 24 "LookupBoard$Board" "wiresHeld" "[I", .fieldLink RX0 27 "LookupBoard$Board" "capacity" "I", .constant RX0 99 (1000000), .fieldLink RX0 31 "LookupBoard$Board" "surcharge" "I"] ++ wsX20 ++ wsX00)
def wsX2_layWire_r1 : List Cond := [Cond.fieldLink RX2 9 "LookupBoard$Layer" "costs" "[I", Cond.constant RX2 46 (1000000), Cond.methodLink RX2 32 yX0_sourceOf, Cond.instanceMethod yX0_sourceOf, Cond.selects RX0 yX0_sourceOf yX0_sourceOf, Cond.initialized RX0, Cond.code yX0_sourceOf cX0_sourceOf 2 (some .int), Cond.fieldLink RX0 15 "LookupBoard$Board" "sources" "[I", Cond.static yX5_isWire, Cond.initialized RX5, Cond.code yX5_isWire cX5_isWire 1 (some .boolean), Cond.static yX5_junctionOf, Cond.code yX5_junctionOf cX5_junctionOf 1 (some .int), Cond.static yX5_isPlace, Cond.code yX5_isPlace cX5_isPlace 1 (some .boolean), Cond.methodLink RX2 42 yX2_measureCosts, Cond.instanceMethod yX2_measureCosts, Cond.selects RX2 yX2_measureCosts yX2_measureCosts, Cond.initialized RX2, Cond.code yX2_measureCosts cX2_measureCosts 8 none, Cond.methodLink RX2 58 yJ7_fill_53178, Cond.static yJ7_fill_53178, Cond.initialized RJ7, Cond.code yJ7_fill_53178 cJ7_fill_53178 4 none]
def wsX2_layWire_r2 : List Cond := [Cond.methodLink RX2 64 yX2_costOver, Cond.instanceMethod yX2_costOver, Cond.selects RX2 yX2_costOver yX2_costOver, Cond.code yX2_costOver cX2_costOver 6 (some .int), Cond.static yX5_segmentAt, Cond.code yX5_segmentAt cX5_segmentAt 4 (some .int), Cond.methodLink RX2 75 yX0_priceOf, Cond.instanceMethod yX0_priceOf, Cond.selects RX0 yX0_priceOf yX0_priceOf, Cond.code yX0_priceOf cX0_priceOf 2 (some .int), Cond.fieldLink RX0 24 "LookupBoard$Board" "wiresHeld" "[I", Cond.fieldLink RX0 27 "LookupBoard$Board" "capacity" "I", Cond.constant RX0 99 (1000000), Cond.fieldLink RX0 31 "LookupBoard$Board" "surcharge" "I", Cond.methodLink RX2 47 yX0_startWire, Cond.instanceMethod yX0_startWire, Cond.selects RX0 yX0_startWire yX0_startWire, Cond.code yX0_startWire cX0_startWire 3 none, Cond.fieldLink RX0 18 "LookupBoard$Board" "lengths" "[I", Cond.fieldLink RX0 21 "LookupBoard$Board" "junctions" "[I", Cond.methodLink RX2 51 yX2_nextJunction, Cond.instanceMethod yX2_nextJunction, Cond.selects RX2 yX2_nextJunction yX2_nextJunction, Cond.code yX2_nextJunction cX2_nextJunction 4 (some .int)]
def wsX2_layWire_r3 : List Cond := [Cond.methodLink RX2 55 yX0_extendWire, Cond.instanceMethod yX0_extendWire, Cond.selects RX0 yX0_extendWire yX0_extendWire, Cond.code yX0_extendWire cX0_extendWire 4 none, Cond.static yX5_segmentBetween, Cond.code yX5_segmentBetween cX5_segmentBetween 3 (some .int), Cond.fieldLink RX5 213 "LookupBoard" "STEPS" "[I", Cond.methodLink RX5 54 yX5_isPlace, Cond.methodLink RX5 217 yX5_segmentAt]
def wsX2_layWire : List Cond := .code yX2_layWire cX2_layWire 7 (some .boolean) :: ((wsX2_layWire_r1 ++ (wsX2_layWire_r2 ++ wsX2_layWire_r3)) ++ wsX20 ++ wsX00)
def wsX2_layAll_r1 : List Cond := [Cond.methodLink RX2 15 yX0_removeAllWires, Cond.instanceMethod yX0_removeAllWires, Cond.selects RX0 yX0_removeAllWires yX0_removeAllWires, Cond.initialized RX0, Cond.code yX0_removeAllWires cX0_removeAllWires 1 none, Cond.fieldLink RX0 18 "LookupBoard$Board" "lengths" "[I", Cond.fieldLink RX0 24 "LookupBoard$Board" "wiresHeld" "[I", Cond.methodLink RX0 34 yJ7_fill_53178, Cond.static yJ7_fill_53178, Cond.initialized RJ7, Cond.code yJ7_fill_53178 cJ7_fill_53178 4 none, Cond.methodLink RX2 20 yX0_distanceOf, Cond.instanceMethod yX0_distanceOf, Cond.selects RX0 yX0_distanceOf yX0_distanceOf, Cond.code yX0_distanceOf cX0_distanceOf 3 (some .int), Cond.methodLink RX0 77 yX0_sourceOf, Cond.instanceMethod yX0_sourceOf, Cond.selects RX0 yX0_sourceOf yX0_sourceOf, Cond.code yX0_sourceOf cX0_sourceOf 2 (some .int), Cond.fieldLink RX0 15 "LookupBoard$Board" "sources" "[I", Cond.static yX5_isWire, Cond.initialized RX5, Cond.code yX5_isWire cX5_isWire 1 (some .boolean), Cond.static yX5_junctionOf]
def wsX2_layAll_r2 : List Cond := [Cond.code yX5_junctionOf cX5_junctionOf 1 (some .int), Cond.static yX5_distanceBetween, Cond.code yX5_distanceBetween cX5_distanceBetween 2 (some .int), Cond.methodLink RX5 220 Lib.Math.abs.name, Cond.static Lib.Math.abs.name, Cond.initialized "java/lang/Math", Cond.code Lib.Math.abs.name Lib.Math.abs.code 1 (some .int), Cond.methodLink RX2 24 yX2_layWire, Cond.instanceMethod yX2_layWire, Cond.selects RX2 yX2_layWire yX2_layWire, Cond.initialized RX2, Cond.code yX2_layWire cX2_layWire 7 (some .boolean), Cond.fieldLink RX2 9 "LookupBoard$Layer" "costs" "[I", Cond.constant RX2 46 (1000000), Cond.methodLink RX2 32 yX0_sourceOf, Cond.static yX5_isPlace, Cond.code yX5_isPlace cX5_isPlace 1 (some .boolean), Cond.methodLink RX2 42 yX2_measureCosts, Cond.instanceMethod yX2_measureCosts, Cond.selects RX2 yX2_measureCosts yX2_measureCosts, Cond.code yX2_measureCosts cX2_measureCosts 8 none, Cond.methodLink RX2 58 yJ7_fill_53178, Cond.methodLink RX2 64 yX2_costOver, Cond.instanceMethod yX2_costOver]
def wsX2_layAll_r3 : List Cond := [Cond.selects RX2 yX2_costOver yX2_costOver, Cond.code yX2_costOver cX2_costOver 6 (some .int), Cond.static yX5_segmentAt, Cond.code yX5_segmentAt cX5_segmentAt 4 (some .int), Cond.methodLink RX2 75 yX0_priceOf, Cond.instanceMethod yX0_priceOf, Cond.selects RX0 yX0_priceOf yX0_priceOf, Cond.code yX0_priceOf cX0_priceOf 2 (some .int), Cond.fieldLink RX0 27 "LookupBoard$Board" "capacity" "I", Cond.constant RX0 99 (1000000), Cond.fieldLink RX0 31 "LookupBoard$Board" "surcharge" "I", Cond.methodLink RX2 47 yX0_startWire, Cond.instanceMethod yX0_startWire, Cond.selects RX0 yX0_startWire yX0_startWire, Cond.code yX0_startWire cX0_startWire 3 none, Cond.fieldLink RX0 21 "LookupBoard$Board" "junctions" "[I", Cond.methodLink RX2 51 yX2_nextJunction, Cond.instanceMethod yX2_nextJunction, Cond.selects RX2 yX2_nextJunction yX2_nextJunction, Cond.code yX2_nextJunction cX2_nextJunction 4 (some .int), Cond.methodLink RX2 55 yX0_extendWire, Cond.instanceMethod yX0_extendWire, Cond.selects RX0 yX0_extendWire yX0_extendWire, Cond.code yX0_extendWire cX0_extendWire 4 none]
def wsX2_layAll_r4 : List Cond := [Cond.static yX5_segmentBetween, Cond.code yX5_segmentBetween cX5_segmentBetween 3 (some .int), Cond.fieldLink RX5 213 "LookupBoard" "STEPS" "[I", Cond.methodLink RX5 54 yX5_isPlace, Cond.methodLink RX5 217 yX5_segmentAt, Cond.methodLink RX2 28 yX0_segmentsOfAll, Cond.instanceMethod yX0_segmentsOfAll, Cond.selects RX0 yX0_segmentsOfAll yX0_segmentsOfAll, Cond.code yX0_segmentsOfAll cX0_segmentsOfAll 3 (some .int)]
def wsX2_layAll : List Cond := .code yX2_layAll cX2_layAll 7 (some .int) :: ((wsX2_layAll_r1 ++ (wsX2_layAll_r2 ++ (wsX2_layAll_r3 ++ wsX2_layAll_r4))) ++ wsX00 ++ wsX20)
def wsX3_init : List Cond := .code yX3_init cX3_init 1 none :: ([.methodLink RX3 3 objectInit, .instanceMethod objectInit, .code objectInit ⟨#[0xb1]⟩ 1 none, .arrayClass .int, .fieldLink RX3 9 "LookupBoard$Logic" "depths" "[I", .fieldLink RX3 15 "LookupBoard$Logic" "bits" "[I", .fieldLink RX3 18 "LookupBoard$Logic" "sequence" "[I", .fieldLink RX3 21 "LookupBoard$Logic" "settled" "I"] ++ wsX30)
def wsX3_depthBySources : List Cond := .code yX3_depthBySources cX3_depthBySources 6 (some .int) :: ([.fieldLink RX3 9 "LookupBoard$Logic" "depths" "[I", .methodLink RX3 52 Lib.Math.max.name, .static Lib.Math.max.name, .initialized "java/lang/Math", .code Lib.Math.max.name Lib.Math.max.code 2 (some .int), .methodLink RX3 45 yX0_sourceOf, .instanceMethod yX0_sourceOf, .selects RX0 yX0_sourceOf yX0_sourceOf, .initialized RX0, .code yX0_sourceOf cX0_sourceOf 2 (some .int), .fieldLink RX0 15 "LookupBoard$Board" "sources" "[I", .static yX5_isWire, .initialized RX5, .code yX5_isWire cX5_isWire 1 (some .boolean), .static yX5_isPlace, .code yX5_isPlace cX5_isPlace 1 (some .boolean)] ++ wsX30 ++ wsX00)
def wsX3_settleSome_r1 : List Cond := [Cond.fieldLink RX3 21 "LookupBoard$Logic" "settled" "I", Cond.fieldLink RX3 9 "LookupBoard$Logic" "depths" "[I", Cond.fieldLink RX3 18 "LookupBoard$Logic" "sequence" "[I", Cond.methodLink RX3 35 yX0_hasCell, Cond.instanceMethod yX0_hasCell, Cond.selects RX0 yX0_hasCell yX0_hasCell, Cond.initialized RX0, Cond.code yX0_hasCell cX0_hasCell 2 (some .boolean), Cond.fieldLink RX0 9 "LookupBoard$Board" "tables" "[I", Cond.static yX5_isPlace, Cond.initialized RX5, Cond.code yX5_isPlace cX5_isPlace 1 (some .boolean), Cond.methodLink RX3 41 yX3_depthBySources, Cond.instanceMethod yX3_depthBySources, Cond.selects RX3 yX3_depthBySources yX3_depthBySources, Cond.initialized RX3, Cond.code yX3_depthBySources cX3_depthBySources 6 (some .int), Cond.methodLink RX3 52 Lib.Math.max.name, Cond.static Lib.Math.max.name, Cond.initialized "java/lang/Math", Cond.code Lib.Math.max.name Lib.Math.max.code 2 (some .int), Cond.methodLink RX3 45 yX0_sourceOf, Cond.instanceMethod yX0_sourceOf, Cond.selects RX0 yX0_sourceOf yX0_sourceOf]
def wsX3_settleSome_r2 : List Cond := [Cond.code yX0_sourceOf cX0_sourceOf 2 (some .int), Cond.fieldLink RX0 15 "LookupBoard$Board" "sources" "[I", Cond.static yX5_isWire, Cond.code yX5_isWire cX5_isWire 1 (some .boolean)]
def wsX3_settleSome : List Cond := .code yX3_settleSome cX3_settleSome 5 (some .boolean) :: ((wsX3_settleSome_r1 ++ wsX3_settleSome_r2) ++ wsX30 ++ wsX00)
def wsX3_study_r1 : List Cond := [Cond.fieldLink RX3 9 "LookupBoard$Logic" "depths" "[I", Cond.fieldLink RX3 21 "LookupBoard$Logic" "settled" "I", Cond.methodLink RX3 25 yJ7_fill_53178, Cond.static yJ7_fill_53178, Cond.initialized RJ7, Cond.code yJ7_fill_53178 cJ7_fill_53178 4 none, Cond.methodLink RX3 31 yX3_settleSome, Cond.instanceMethod yX3_settleSome, Cond.selects RX3 yX3_settleSome yX3_settleSome, Cond.initialized RX3, Cond.code yX3_settleSome cX3_settleSome 5 (some .boolean), Cond.fieldLink RX3 18 "LookupBoard$Logic" "sequence" "[I", Cond.methodLink RX3 35 yX0_hasCell, Cond.instanceMethod yX0_hasCell, Cond.selects RX0 yX0_hasCell yX0_hasCell, Cond.initialized RX0, Cond.code yX0_hasCell cX0_hasCell 2 (some .boolean), Cond.fieldLink RX0 9 "LookupBoard$Board" "tables" "[I", Cond.static yX5_isPlace, Cond.initialized RX5, Cond.code yX5_isPlace cX5_isPlace 1 (some .boolean), Cond.methodLink RX3 41 yX3_depthBySources, Cond.instanceMethod yX3_depthBySources, Cond.selects RX3 yX3_depthBySources yX3_depthBySources]
def wsX3_study_r2 : List Cond := [Cond.code yX3_depthBySources cX3_depthBySources 6 (some .int), Cond.methodLink RX3 52 Lib.Math.max.name, Cond.static Lib.Math.max.name, Cond.initialized "java/lang/Math", Cond.code Lib.Math.max.name Lib.Math.max.code 2 (some .int), Cond.methodLink RX3 45 yX0_sourceOf, Cond.instanceMethod yX0_sourceOf, Cond.selects RX0 yX0_sourceOf yX0_sourceOf, Cond.code yX0_sourceOf cX0_sourceOf 2 (some .int), Cond.fieldLink RX0 15 "LookupBoard$Board" "sources" "[I", Cond.static yX5_isWire, Cond.code yX5_isWire cX5_isWire 1 (some .boolean)]
def wsX3_study : List Cond := .code yX3_study cX3_study 4 none :: ((wsX3_study_r1 ++ wsX3_study_r2) ++ wsX30 ++ wsX00)
def wsX3_sourceBit : List Cond := .code yX3_sourceBit cX3_sourceBit 3 (some .int) :: ([.fieldLink RX3 15 "LookupBoard$Logic" "bits" "[I", .static yX5_isPlace, .initialized RX5, .code yX5_isPlace cX5_isPlace 1 (some .boolean)] ++ wsX30)
def wsX3_work : List Cond := .code yX3_work cX3_work 7 none :: ([.fieldLink RX3 21 "LookupBoard$Logic" "settled" "I", .fieldLink RX3 18 "LookupBoard$Logic" "sequence" "[I", .fieldLink RX3 15 "LookupBoard$Logic" "bits" "[I", .methodLink RX3 45 yX0_sourceOf, .instanceMethod yX0_sourceOf, .selects RX0 yX0_sourceOf yX0_sourceOf, .initialized RX0, .code yX0_sourceOf cX0_sourceOf 2 (some .int), .fieldLink RX0 15 "LookupBoard$Board" "sources" "[I", .static yX5_isWire, .initialized RX5, .code yX5_isWire cX5_isWire 1 (some .boolean), .methodLink RX3 58 yX3_sourceBit, .instanceMethod yX3_sourceBit, .selects RX3 yX3_sourceBit yX3_sourceBit, .initialized RX3, .code yX3_sourceBit cX3_sourceBit 3 (some .int), .static yX5_isPlace, .code yX5_isPlace cX5_isPlace 1 (some .boolean), .methodLink RX3 61 yX0_tableOf, .instanceMethod yX0_tableOf, .selects RX0 yX0_tableOf yX0_tableOf, .code yX0_tableOf cX0_tableOf 2 (some .int), .fieldLink RX0 9 "LookupBoard$Board" "tables" "[I"] ++ wsX30 ++ wsX00)
def wsX3_depthOf : List Cond := .code yX3_depthOf cX3_depthOf 2 (some .int) :: ([.fieldLink RX3 9 "LookupBoard$Logic" "depths" "[I", .static yX5_isPlace, .initialized RX5, .code yX5_isPlace cX5_isPlace 1 (some .boolean)] ++ wsX30)
def wsX3_answers : List Cond := .code yX3_answers cX3_answers 2 (some .boolean) :: ([.methodLink RX3 64 yX3_depthOf, .instanceMethod yX3_depthOf, .selects RX3 yX3_depthOf yX3_depthOf, .initialized RX3, .code yX3_depthOf cX3_depthOf 2 (some .int), .fieldLink RX3 9 "LookupBoard$Logic" "depths" "[I", .static yX5_isPlace, .initialized RX5, .code yX5_isPlace cX5_isPlace 1 (some .boolean)] ++ wsX30)
def wsX3_bitOf : List Cond := .code yX3_bitOf cX3_bitOf 2 (some .int) :: ([.fieldLink RX3 15 "LookupBoard$Logic" "bits" "[I", .static yX5_isPlace, .initialized RX5, .code yX5_isPlace cX5_isPlace 1 (some .boolean)] ++ wsX30)
def wsX3_cellsThatAnswer : List Cond := .code yX3_cellsThatAnswer cX3_cellsThatAnswer 1 (some .int) :: ([.fieldLink RX3 21 "LookupBoard$Logic" "settled" "I"] ++ wsX30)
def wsX3_greatestDepth : List Cond := .code yX3_greatestDepth cX3_greatestDepth 3 (some .int) :: ([.fieldLink RX3 9 "LookupBoard$Logic" "depths" "[I", .methodLink RX3 52 Lib.Math.max.name, .static Lib.Math.max.name, .initialized "java/lang/Math", .code Lib.Math.max.name Lib.Math.max.code 2 (some .int)] ++ wsX30)
def wsX4_init : List Cond := .code yX4_init cX4_init 1 none :: ([.methodLink RX4 3 objectInit, .instanceMethod objectInit, .code objectInit ⟨#[0xb1]⟩ 1 none, .arrayClass .char, .fieldLink RX4 9 "LookupBoard$PlanText" "signs" "[C", .fieldLink RX4 15 "LookupBoard$PlanText" "length" "I", .fieldLink RX4 19 "LookupBoard$PlanText" "at" "I"] ++ wsX40)
def wsX4_length : List Cond := .code yX4_length cX4_length 1 (some .int) :: ([.fieldLink RX4 15 "LookupBoard$PlanText" "length" "I"] ++ wsX40)
def wsX4_append : List Cond := .code yX4_append cX4_append 2 (some .boolean) :: ([.fieldLink RX4 15 "LookupBoard$PlanText" "length" "I", .fieldLink RX4 9 "LookupBoard$PlanText" "signs" "[C"] ++ wsX40)
def wsX4_empty : List Cond := .code yX4_empty cX4_empty 1 none :: ([.fieldLink RX4 15 "LookupBoard$PlanText" "length" "I"] ++ wsX40)
def wsX4_signHere : List Cond := .code yX4_signHere cX4_signHere 1 (some .int) :: ([.fieldLink RX4 19 "LookupBoard$PlanText" "at" "I", .fieldLink RX4 15 "LookupBoard$PlanText" "length" "I", .fieldLink RX4 9 "LookupBoard$PlanText" "signs" "[C"] ++ wsX40)
def wsX4_digitHere : List Cond := .code yX4_digitHere cX4_digitHere 2 (some .int) :: ([.methodLink RX4 53 yX4_signHere, .instanceMethod yX4_signHere, .selects RX4 yX4_signHere yX4_signHere, .initialized RX4, .code yX4_signHere cX4_signHere 1 (some .int), .fieldLink RX4 19 "LookupBoard$PlanText" "at" "I", .fieldLink RX4 15 "LookupBoard$PlanText" "length" "I", .fieldLink RX4 9 "LookupBoard$PlanText" "signs" "[C"] ++ wsX40)
def wsX4_readNumber : List Cond := .code yX4_readNumber cX4_readNumber 4 (some .int) :: ([.fieldLink RX4 19 "LookupBoard$PlanText" "at" "I", .methodLink RX4 50 yX4_digitHere, .instanceMethod yX4_digitHere, .selects RX4 yX4_digitHere yX4_digitHere, .initialized RX4, .code yX4_digitHere cX4_digitHere 2 (some .int), .methodLink RX4 53 yX4_signHere, .instanceMethod yX4_signHere, .selects RX4 yX4_signHere yX4_signHere, .code yX4_signHere cX4_signHere 1 (some .int), .fieldLink RX4 15 "LookupBoard$PlanText" "length" "I", .fieldLink RX4 9 "LookupBoard$PlanText" "signs" "[C"] ++ wsX40)
def wsX4_pass : List Cond := .code yX4_pass cX4_pass 2 (some .boolean) :: ([.fieldLink RX4 19 "LookupBoard$PlanText" "at" "I", .methodLink RX4 53 yX4_signHere, .instanceMethod yX4_signHere, .selects RX4 yX4_signHere yX4_signHere, .initialized RX4, .code yX4_signHere cX4_signHere 1 (some .int), .fieldLink RX4 15 "LookupBoard$PlanText" "length" "I", .fieldLink RX4 9 "LookupBoard$PlanText" "signs" "[C"] ++ wsX40)
def wsX4_readTableSign : List Cond := .code yX4_readTableSign cX4_readTableSign 3 (some .int) :: ([.fieldLink RX4 19 "LookupBoard$PlanText" "at" "I", .methodLink RX4 53 yX4_signHere, .instanceMethod yX4_signHere, .selects RX4 yX4_signHere yX4_signHere, .initialized RX4, .code yX4_signHere cX4_signHere 1 (some .int), .fieldLink RX4 15 "LookupBoard$PlanText" "length" "I", .fieldLink RX4 9 "LookupBoard$PlanText" "signs" "[C", .methodLink RX4 50 yX4_digitHere, .instanceMethod yX4_digitHere, .selects RX4 yX4_digitHere yX4_digitHere, .code yX4_digitHere cX4_digitHere 2 (some .int)] ++ wsX40)
def wsX4_readSource : List Cond := .code yX4_readSource cX4_readSource 2 (some .int) :: ([.methodLink RX4 26 yX4_pass, .instanceMethod yX4_pass, .selects RX4 yX4_pass yX4_pass, .initialized RX4, .code yX4_pass cX4_pass 2 (some .boolean), .fieldLink RX4 19 "LookupBoard$PlanText" "at" "I", .methodLink RX4 53 yX4_signHere, .instanceMethod yX4_signHere, .selects RX4 yX4_signHere yX4_signHere, .code yX4_signHere cX4_signHere 1 (some .int), .fieldLink RX4 15 "LookupBoard$PlanText" "length" "I", .fieldLink RX4 9 "LookupBoard$PlanText" "signs" "[C", .methodLink RX4 30 yX4_readNumber, .instanceMethod yX4_readNumber, .selects RX4 yX4_readNumber yX4_readNumber, .code yX4_readNumber cX4_readNumber 4 (some .int), .methodLink RX4 50 yX4_digitHere, .instanceMethod yX4_digitHere, .selects RX4 yX4_digitHere yX4_digitHere, .code yX4_digitHere cX4_digitHere 2 (some .int)] ++ wsX40)
def wsX4_readCell_r1 : List Cond := [Cond.methodLink RX4 30 yX4_readNumber, Cond.instanceMethod yX4_readNumber, Cond.selects RX4 yX4_readNumber yX4_readNumber, Cond.initialized RX4, Cond.code yX4_readNumber cX4_readNumber 4 (some .int), Cond.fieldLink RX4 19 "LookupBoard$PlanText" "at" "I", Cond.methodLink RX4 50 yX4_digitHere, Cond.instanceMethod yX4_digitHere, Cond.selects RX4 yX4_digitHere yX4_digitHere, Cond.code yX4_digitHere cX4_digitHere 2 (some .int), Cond.methodLink RX4 53 yX4_signHere, Cond.instanceMethod yX4_signHere, Cond.selects RX4 yX4_signHere yX4_signHere, Cond.code yX4_signHere cX4_signHere 1 (some .int), Cond.fieldLink RX4 15 "LookupBoard$PlanText" "length" "I", Cond.fieldLink RX4 9 "LookupBoard$PlanText" "signs" "[C", Cond.methodLink RX4 26 yX4_pass, Cond.instanceMethod yX4_pass, Cond.selects RX4 yX4_pass yX4_pass, Cond.code yX4_pass cX4_pass 2 (some .boolean), Cond.methodLink RX4 34 yX4_readTableSign, Cond.instanceMethod yX4_readTableSign, Cond.selects RX4 yX4_readTableSign yX4_readTableSign, Cond.code yX4_readTableSign cX4_readTableSign 3 (some .int)]
def wsX4_readCell_r2 : List Cond := [Cond.methodLink RX4 38 yX0_changeTable, Cond.instanceMethod yX0_changeTable, Cond.selects RX0 yX0_changeTable yX0_changeTable, Cond.initialized RX0, Cond.code yX0_changeTable cX0_changeTable 3 none, Cond.fieldLink RX0 9 "LookupBoard$Board" "tables" "[I", Cond.static yX5_isPlace, Cond.initialized RX5, Cond.code yX5_isPlace cX5_isPlace 1 (some .boolean), Cond.methodLink RX4 44 yX4_readSource, Cond.instanceMethod yX4_readSource, Cond.selects RX4 yX4_readSource yX4_readSource, Cond.code yX4_readSource cX4_readSource 2 (some .int), Cond.methodLink RX4 47 yX0_changeSource, Cond.instanceMethod yX0_changeSource, Cond.selects RX0 yX0_changeSource yX0_changeSource, Cond.code yX0_changeSource cX0_changeSource 3 none, Cond.fieldLink RX0 15 "LookupBoard$Board" "sources" "[I", Cond.static yX5_isWire, Cond.code yX5_isWire cX5_isWire 1 (some .boolean)]
def wsX4_readCell : List Cond := .code yX4_readCell cX4_readCell 7 (some .boolean) :: ((wsX4_readCell_r1 ++ wsX4_readCell_r2) ++ wsX40 ++ wsX00)
def wsX4_readInto_r1 : List Cond := [Cond.fieldLink RX4 19 "LookupBoard$PlanText" "at" "I", Cond.fieldLink RX4 15 "LookupBoard$PlanText" "length" "I", Cond.methodLink RX4 22 yX4_readCell, Cond.instanceMethod yX4_readCell, Cond.selects RX4 yX4_readCell yX4_readCell, Cond.initialized RX4, Cond.code yX4_readCell cX4_readCell 7 (some .boolean), Cond.methodLink RX4 30 yX4_readNumber, Cond.instanceMethod yX4_readNumber, Cond.selects RX4 yX4_readNumber yX4_readNumber, Cond.code yX4_readNumber cX4_readNumber 4 (some .int), Cond.methodLink RX4 50 yX4_digitHere, Cond.instanceMethod yX4_digitHere, Cond.selects RX4 yX4_digitHere yX4_digitHere, Cond.code yX4_digitHere cX4_digitHere 2 (some .int), Cond.methodLink RX4 53 yX4_signHere, Cond.instanceMethod yX4_signHere, Cond.selects RX4 yX4_signHere yX4_signHere, Cond.code yX4_signHere cX4_signHere 1 (some .int), Cond.fieldLink RX4 9 "LookupBoard$PlanText" "signs" "[C", Cond.methodLink RX4 26 yX4_pass, Cond.instanceMethod yX4_pass, Cond.selects RX4 yX4_pass yX4_pass, Cond.code yX4_pass cX4_pass 2 (some .boolean)]
def wsX4_readInto_r2 : List Cond := [Cond.methodLink RX4 34 yX4_readTableSign, Cond.instanceMethod yX4_readTableSign, Cond.selects RX4 yX4_readTableSign yX4_readTableSign, Cond.code yX4_readTableSign cX4_readTableSign 3 (some .int), Cond.methodLink RX4 38 yX0_changeTable, Cond.instanceMethod yX0_changeTable, Cond.selects RX0 yX0_changeTable yX0_changeTable, Cond.initialized RX0, Cond.code yX0_changeTable cX0_changeTable 3 none, Cond.fieldLink RX0 9 "LookupBoard$Board" "tables" "[I", Cond.static yX5_isPlace, Cond.initialized RX5, Cond.code yX5_isPlace cX5_isPlace 1 (some .boolean), Cond.methodLink RX4 44 yX4_readSource, Cond.instanceMethod yX4_readSource, Cond.selects RX4 yX4_readSource yX4_readSource, Cond.code yX4_readSource cX4_readSource 2 (some .int), Cond.methodLink RX4 47 yX0_changeSource, Cond.instanceMethod yX0_changeSource, Cond.selects RX0 yX0_changeSource yX0_changeSource, Cond.code yX0_changeSource cX0_changeSource 3 none, Cond.fieldLink RX0 15 "LookupBoard$Board" "sources" "[I", Cond.static yX5_isWire, Cond.code yX5_isWire cX5_isWire 1 (some .boolean)]
def wsX4_readInto : List Cond := .code yX4_readInto cX4_readInto 3 (some .int) :: ((wsX4_readInto_r1 ++ wsX4_readInto_r2) ++ wsX40 ++ wsX00)
def wsX5_init_r1 : List Cond := [Cond.methodLink RX5 1 objectInit, Cond.instanceMethod objectInit, Cond.code objectInit ⟨#[0xb1]⟩ 1 none, Cond.classLink RX5 7 RX0, Cond.instantiable RX0 7, Cond.initialized RX0, Cond.fieldLink RX5 10 "LookupBoard" "board" "LLookupBoard$Board;", Cond.fieldLink RX5 16 "LookupBoard" "trial" "LLookupBoard$Board;", Cond.fieldLink RX5 19 "LookupBoard" "snapshot" "LLookupBoard$Board;", Cond.classLink RX5 22 RX1, Cond.instantiable RX1 2, Cond.initialized RX1, Cond.fieldLink RX5 25 "LookupBoard" "history" "LLookupBoard$History;", Cond.classLink RX5 29 RX2, Cond.instantiable RX2 1, Cond.initialized RX2, Cond.fieldLink RX5 32 "LookupBoard" "layer" "LLookupBoard$Layer;", Cond.classLink RX5 36 RX3, Cond.instantiable RX3 4, Cond.initialized RX3, Cond.fieldLink RX5 39 "LookupBoard" "logic" "LLookupBoard$Logic;", Cond.classLink RX5 43 RX4, Cond.instantiable RX4 3, Cond.initialized RX4]
def wsX5_init_r2 : List Cond := [Cond.fieldLink RX5 46 "LookupBoard" "text" "LLookupBoard$PlanText;", Cond.fieldLink RX5 50 "LookupBoard" "hasSnapshot" "Z", Cond.methodLink RX5 9 yX0_init, Cond.instanceMethod yX0_init, Cond.code yX0_init cX0_init 1 none, Cond.methodLink RX0 3 objectInit, Cond.arrayClass .int, Cond.fieldLink RX0 9 "LookupBoard$Board" "tables" "[I", Cond.fieldLink RX0 15 "LookupBoard$Board" "sources" "[I", Cond.fieldLink RX0 18 "LookupBoard$Board" "lengths" "[I", Cond.fieldLink RX0 21 "LookupBoard$Board" "junctions" "[I", Cond.fieldLink RX0 24 "LookupBoard$Board" "wiresHeld" "[I", Cond.fieldLink RX0 27 "LookupBoard$Board" "capacity" "I", Cond.fieldLink RX0 31 "LookupBoard$Board" "surcharge" "I", Cond.methodLink RX0 34 yJ7_fill_53178, Cond.static yJ7_fill_53178, Cond.initialized RJ7, Cond.code yJ7_fill_53178 cJ7_fill_53178 4 none, Cond.methodLink RX5 24 yX1_init, Cond.instanceMethod yX1_init, Cond.code yX1_init cX1_init 2 none, Cond.methodLink RX1 3 objectInit, Cond.classLink RX1 9 RX0, Cond.fieldLink RX1 11 "LookupBoard$History" "states" "[LLookupBoard$Board;"]
def wsX5_init_r3 : List Cond := [Cond.fieldLink RX1 17 "LookupBoard$History" "size" "I", Cond.methodLink RX1 21 yX0_init, Cond.instanceMethod yX2_init, Cond.code yX2_init cX2_init 1 none, Cond.methodLink RX2 3 objectInit, Cond.fieldLink RX2 9 "LookupBoard$Layer" "costs" "[I", Cond.instanceMethod yX3_init, Cond.code yX3_init cX3_init 1 none, Cond.methodLink RX3 3 objectInit, Cond.fieldLink RX3 9 "LookupBoard$Logic" "depths" "[I", Cond.fieldLink RX3 15 "LookupBoard$Logic" "bits" "[I", Cond.fieldLink RX3 18 "LookupBoard$Logic" "sequence" "[I", Cond.fieldLink RX3 21 "LookupBoard$Logic" "settled" "I", Cond.instanceMethod yX4_init, Cond.code yX4_init cX4_init 1 none, Cond.methodLink RX4 3 objectInit, Cond.arrayClass .char, Cond.fieldLink RX4 9 "LookupBoard$PlanText" "signs" "[C", Cond.fieldLink RX4 15 "LookupBoard$PlanText" "length" "I", Cond.fieldLink RX4 19 "LookupBoard$PlanText" "at" "I"]
def wsX5_init : List Cond := .code yX5_init cX5_init 1 none :: ((wsX5_init_r1 ++ (wsX5_init_r2 ++ wsX5_init_r3)) ++ wsX00 ++ wsX50 ++ wsX10 ++ wsX20 ++ wsX30 ++ wsX40)
def wsX5_isTable : List Cond := .code yX5_isTable cX5_isTable 1 (some .boolean) :: ([])
def wsX5_put_r1 : List Cond := [Cond.fieldLink RX5 10 "LookupBoard" "board" "LLookupBoard$Board;", Cond.fieldLink RX5 25 "LookupBoard" "history" "LLookupBoard$History;", Cond.methodLink RX5 54 yX5_isPlace, Cond.static yX5_isPlace, Cond.initialized RX5, Cond.code yX5_isPlace cX5_isPlace 1 (some .boolean), Cond.methodLink RX5 58 yX5_isTable, Cond.static yX5_isTable, Cond.code yX5_isTable cX5_isTable 1 (some .boolean), Cond.methodLink RX5 61 yX0_hasCell, Cond.instanceMethod yX0_hasCell, Cond.selects RX0 yX0_hasCell yX0_hasCell, Cond.initialized RX0, Cond.code yX0_hasCell cX0_hasCell 2 (some .boolean), Cond.fieldLink RX0 9 "LookupBoard$Board" "tables" "[I", Cond.methodLink RX5 64 yX1_remember, Cond.instanceMethod yX1_remember, Cond.selects RX1 yX1_remember yX1_remember, Cond.initialized RX1, Cond.code yX1_remember cX1_remember 3 none, Cond.fieldLink RX1 17 "LookupBoard$History" "size" "I", Cond.methodLink RX1 22 yX1_dropOldest, Cond.instanceMethod yX1_dropOldest, Cond.selects RX1 yX1_dropOldest yX1_dropOldest]
def wsX5_put_r2 : List Cond := [Cond.code yX1_dropOldest cX1_dropOldest 3 none, Cond.fieldLink RX1 11 "LookupBoard$History" "states" "[LLookupBoard$Board;", Cond.methodLink RX1 25 yX1_stateAt, Cond.instanceMethod yX1_stateAt, Cond.selects RX1 yX1_stateAt yX1_stateAt, Cond.code yX1_stateAt cX1_stateAt 2 (some (.object "LookupBoard$Board")), Cond.methodLink RX1 29 yX0_copyFrom, Cond.instanceMethod yX0_copyFrom, Cond.selects RX0 yX0_copyFrom yX0_copyFrom, Cond.code yX0_copyFrom cX0_copyFrom 2 none, Cond.methodLink RX0 40 arraycopyName, Cond.native arraycopyName, Cond.static arraycopyName, Cond.initialized "java/lang/System", Cond.fieldLink RX0 15 "LookupBoard$Board" "sources" "[I", Cond.fieldLink RX0 18 "LookupBoard$Board" "lengths" "[I", Cond.fieldLink RX0 21 "LookupBoard$Board" "junctions" "[I", Cond.fieldLink RX0 24 "LookupBoard$Board" "wiresHeld" "[I", Cond.fieldLink RX0 27 "LookupBoard$Board" "capacity" "I", Cond.fieldLink RX0 31 "LookupBoard$Board" "surcharge" "I", Cond.methodLink RX5 68 yX0_changeTable, Cond.instanceMethod yX0_changeTable, Cond.selects RX0 yX0_changeTable yX0_changeTable, Cond.code yX0_changeTable cX0_changeTable 3 none]
def wsX5_put_r3 : List Cond := [Cond.methodLink RX5 72 yX0_cells, Cond.instanceMethod yX0_cells, Cond.selects RX0 yX0_cells yX0_cells, Cond.code yX0_cells cX0_cells 3 (some .int), Cond.methodLink RX0 53 yX0_hasCell]
def wsX5_put : List Cond := .code yX5_put cX5_put 3 (some .int) :: ((wsX5_put_r1 ++ (wsX5_put_r2 ++ wsX5_put_r3)) ++ wsX50 ++ wsX00 ++ wsX10)
def wsX5_take_r1 : List Cond := [Cond.fieldLink RX5 10 "LookupBoard" "board" "LLookupBoard$Board;", Cond.fieldLink RX5 25 "LookupBoard" "history" "LLookupBoard$History;", Cond.methodLink RX5 61 yX0_hasCell, Cond.instanceMethod yX0_hasCell, Cond.selects RX0 yX0_hasCell yX0_hasCell, Cond.initialized RX0, Cond.code yX0_hasCell cX0_hasCell 2 (some .boolean), Cond.fieldLink RX0 9 "LookupBoard$Board" "tables" "[I", Cond.static yX5_isPlace, Cond.initialized RX5, Cond.code yX5_isPlace cX5_isPlace 1 (some .boolean), Cond.methodLink RX5 76 yX0_usesByOthers, Cond.instanceMethod yX0_usesByOthers, Cond.selects RX0 yX0_usesByOthers yX0_usesByOthers, Cond.code yX0_usesByOthers cX0_usesByOthers 4 (some .int), Cond.methodLink RX0 73 yX0_uses, Cond.instanceMethod yX0_uses, Cond.selects RX0 yX0_uses yX0_uses, Cond.code yX0_uses cX0_uses 4 (some .int), Cond.fieldLink RX0 15 "LookupBoard$Board" "sources" "[I", Cond.methodLink RX0 77 yX0_sourceOf, Cond.instanceMethod yX0_sourceOf, Cond.selects RX0 yX0_sourceOf yX0_sourceOf, Cond.code yX0_sourceOf cX0_sourceOf 2 (some .int)]
def wsX5_take_r2 : List Cond := [Cond.static yX5_isWire, Cond.code yX5_isWire cX5_isWire 1 (some .boolean), Cond.methodLink RX5 64 yX1_remember, Cond.instanceMethod yX1_remember, Cond.selects RX1 yX1_remember yX1_remember, Cond.initialized RX1, Cond.code yX1_remember cX1_remember 3 none, Cond.fieldLink RX1 17 "LookupBoard$History" "size" "I", Cond.methodLink RX1 22 yX1_dropOldest, Cond.instanceMethod yX1_dropOldest, Cond.selects RX1 yX1_dropOldest yX1_dropOldest, Cond.code yX1_dropOldest cX1_dropOldest 3 none, Cond.fieldLink RX1 11 "LookupBoard$History" "states" "[LLookupBoard$Board;", Cond.methodLink RX1 25 yX1_stateAt, Cond.instanceMethod yX1_stateAt, Cond.selects RX1 yX1_stateAt yX1_stateAt, Cond.code yX1_stateAt cX1_stateAt 2 (some (.object "LookupBoard$Board")), Cond.methodLink RX1 29 yX0_copyFrom, Cond.instanceMethod yX0_copyFrom, Cond.selects RX0 yX0_copyFrom yX0_copyFrom, Cond.code yX0_copyFrom cX0_copyFrom 2 none, Cond.methodLink RX0 40 arraycopyName, Cond.native arraycopyName, Cond.static arraycopyName]
def wsX5_take_r3 : List Cond := [Cond.initialized "java/lang/System", Cond.fieldLink RX0 18 "LookupBoard$Board" "lengths" "[I", Cond.fieldLink RX0 21 "LookupBoard$Board" "junctions" "[I", Cond.fieldLink RX0 24 "LookupBoard$Board" "wiresHeld" "[I", Cond.fieldLink RX0 27 "LookupBoard$Board" "capacity" "I", Cond.fieldLink RX0 31 "LookupBoard$Board" "surcharge" "I", Cond.methodLink RX5 80 yX0_removeCell, Cond.instanceMethod yX0_removeCell, Cond.selects RX0 yX0_removeCell yX0_removeCell, Cond.code yX0_removeCell cX0_removeCell 3 none, Cond.methodLink RX0 59 yX0_removeWire, Cond.instanceMethod yX0_removeWire, Cond.selects RX0 yX0_removeWire yX0_removeWire, Cond.code yX0_removeWire cX0_removeWire 4 none, Cond.methodLink RX0 86 yX0_lengthOf, Cond.instanceMethod yX0_lengthOf, Cond.selects RX0 yX0_lengthOf yX0_lengthOf, Cond.code yX0_lengthOf cX0_lengthOf 2 (some .int), Cond.methodLink RX0 96 yX0_junctionAt, Cond.instanceMethod yX0_junctionAt, Cond.selects RX0 yX0_junctionAt yX0_junctionAt, Cond.code yX0_junctionAt cX0_junctionAt 5 (some .int), Cond.static yX5_junctionOf, Cond.code yX5_junctionOf cX5_junctionOf 1 (some .int)]
def wsX5_take_r4 : List Cond := [Cond.static yX5_segmentBetween, Cond.code yX5_segmentBetween cX5_segmentBetween 3 (some .int), Cond.fieldLink RX5 213 "LookupBoard" "STEPS" "[I", Cond.methodLink RX5 54 yX5_isPlace, Cond.methodLink RX5 217 yX5_segmentAt, Cond.static yX5_segmentAt, Cond.code yX5_segmentAt cX5_segmentAt 4 (some .int), Cond.methodLink RX0 63 yX0_changeSource, Cond.instanceMethod yX0_changeSource, Cond.selects RX0 yX0_changeSource yX0_changeSource, Cond.code yX0_changeSource cX0_changeSource 3 none, Cond.methodLink RX0 67 yX0_changeTable, Cond.instanceMethod yX0_changeTable, Cond.selects RX0 yX0_changeTable yX0_changeTable, Cond.code yX0_changeTable cX0_changeTable 3 none, Cond.methodLink RX5 72 yX0_cells, Cond.instanceMethod yX0_cells, Cond.selects RX0 yX0_cells yX0_cells, Cond.code yX0_cells cX0_cells 3 (some .int), Cond.methodLink RX0 53 yX0_hasCell]
def wsX5_take : List Cond := .code yX5_take cX5_take 2 (some .int) :: ((wsX5_take_r1 ++ (wsX5_take_r2 ++ (wsX5_take_r3 ++ wsX5_take_r4))) ++ wsX50 ++ wsX00 ++ wsX10)
def wsX5_setTable_r1 : List Cond := [Cond.fieldLink RX5 10 "LookupBoard" "board" "LLookupBoard$Board;", Cond.fieldLink RX5 25 "LookupBoard" "history" "LLookupBoard$History;", Cond.methodLink RX5 61 yX0_hasCell, Cond.instanceMethod yX0_hasCell, Cond.selects RX0 yX0_hasCell yX0_hasCell, Cond.initialized RX0, Cond.code yX0_hasCell cX0_hasCell 2 (some .boolean), Cond.fieldLink RX0 9 "LookupBoard$Board" "tables" "[I", Cond.static yX5_isPlace, Cond.initialized RX5, Cond.code yX5_isPlace cX5_isPlace 1 (some .boolean), Cond.methodLink RX5 58 yX5_isTable, Cond.static yX5_isTable, Cond.code yX5_isTable cX5_isTable 1 (some .boolean), Cond.methodLink RX5 84 yX0_tableOf, Cond.instanceMethod yX0_tableOf, Cond.selects RX0 yX0_tableOf yX0_tableOf, Cond.code yX0_tableOf cX0_tableOf 2 (some .int), Cond.methodLink RX5 64 yX1_remember, Cond.instanceMethod yX1_remember, Cond.selects RX1 yX1_remember yX1_remember, Cond.initialized RX1, Cond.code yX1_remember cX1_remember 3 none, Cond.fieldLink RX1 17 "LookupBoard$History" "size" "I"]
def wsX5_setTable_r2 : List Cond := [Cond.methodLink RX1 22 yX1_dropOldest, Cond.instanceMethod yX1_dropOldest, Cond.selects RX1 yX1_dropOldest yX1_dropOldest, Cond.code yX1_dropOldest cX1_dropOldest 3 none, Cond.fieldLink RX1 11 "LookupBoard$History" "states" "[LLookupBoard$Board;", Cond.methodLink RX1 25 yX1_stateAt, Cond.instanceMethod yX1_stateAt, Cond.selects RX1 yX1_stateAt yX1_stateAt, Cond.code yX1_stateAt cX1_stateAt 2 (some (.object "LookupBoard$Board")), Cond.methodLink RX1 29 yX0_copyFrom, Cond.instanceMethod yX0_copyFrom, Cond.selects RX0 yX0_copyFrom yX0_copyFrom, Cond.code yX0_copyFrom cX0_copyFrom 2 none, Cond.methodLink RX0 40 arraycopyName, Cond.native arraycopyName, Cond.static arraycopyName, Cond.initialized "java/lang/System", Cond.fieldLink RX0 15 "LookupBoard$Board" "sources" "[I", Cond.fieldLink RX0 18 "LookupBoard$Board" "lengths" "[I", Cond.fieldLink RX0 21 "LookupBoard$Board" "junctions" "[I", Cond.fieldLink RX0 24 "LookupBoard$Board" "wiresHeld" "[I", Cond.fieldLink RX0 27 "LookupBoard$Board" "capacity" "I", Cond.fieldLink RX0 31 "LookupBoard$Board" "surcharge" "I", Cond.methodLink RX5 68 yX0_changeTable]
def wsX5_setTable_r3 : List Cond := [Cond.instanceMethod yX0_changeTable, Cond.selects RX0 yX0_changeTable yX0_changeTable, Cond.code yX0_changeTable cX0_changeTable 3 none]
def wsX5_setTable : List Cond := .code yX5_setTable cX5_setTable 4 (some .int) :: ((wsX5_setTable_r1 ++ (wsX5_setTable_r2 ++ wsX5_setTable_r3)) ++ wsX50 ++ wsX00 ++ wsX10)
def wsX5_isInput : List Cond := .code yX5_isInput cX5_isInput 1 (some .boolean) :: ([])
def wsX5_acceptTrial_r1 : List Cond := [Cond.fieldLink RX5 25 "LookupBoard" "history" "LLookupBoard$History;", Cond.fieldLink RX5 10 "LookupBoard" "board" "LLookupBoard$Board;", Cond.fieldLink RX5 16 "LookupBoard" "trial" "LLookupBoard$Board;", Cond.methodLink RX5 64 yX1_remember, Cond.instanceMethod yX1_remember, Cond.selects RX1 yX1_remember yX1_remember, Cond.initialized RX1, Cond.code yX1_remember cX1_remember 3 none, Cond.fieldLink RX1 17 "LookupBoard$History" "size" "I", Cond.methodLink RX1 22 yX1_dropOldest, Cond.instanceMethod yX1_dropOldest, Cond.selects RX1 yX1_dropOldest yX1_dropOldest, Cond.code yX1_dropOldest cX1_dropOldest 3 none, Cond.fieldLink RX1 11 "LookupBoard$History" "states" "[LLookupBoard$Board;", Cond.methodLink RX1 25 yX1_stateAt, Cond.instanceMethod yX1_stateAt, Cond.selects RX1 yX1_stateAt yX1_stateAt, Cond.code yX1_stateAt cX1_stateAt 2 (some (.object "LookupBoard$Board")), Cond.methodLink RX1 29 yX0_copyFrom, Cond.instanceMethod yX0_copyFrom, Cond.selects RX0 yX0_copyFrom yX0_copyFrom, Cond.initialized RX0, Cond.code yX0_copyFrom cX0_copyFrom 2 none, Cond.fieldLink RX0 9 "LookupBoard$Board" "tables" "[I"]
def wsX5_acceptTrial_r2 : List Cond := [Cond.methodLink RX0 40 arraycopyName, Cond.native arraycopyName, Cond.static arraycopyName, Cond.initialized "java/lang/System", Cond.fieldLink RX0 15 "LookupBoard$Board" "sources" "[I", Cond.fieldLink RX0 18 "LookupBoard$Board" "lengths" "[I", Cond.fieldLink RX0 21 "LookupBoard$Board" "junctions" "[I", Cond.fieldLink RX0 24 "LookupBoard$Board" "wiresHeld" "[I", Cond.fieldLink RX0 27 "LookupBoard$Board" "capacity" "I", Cond.fieldLink RX0 31 "LookupBoard$Board" "surcharge" "I", Cond.methodLink RX5 96 yX0_copyFrom]
def wsX5_acceptTrial : List Cond := .code yX5_acceptTrial cX5_acceptTrial 1 none :: ((wsX5_acceptTrial_r1 ++ wsX5_acceptTrial_r2) ++ wsX50 ++ wsX10 ++ wsX00)
def wsX5_connect_r1 : List Cond := [Cond.fieldLink RX5 10 "LookupBoard" "board" "LLookupBoard$Board;", Cond.fieldLink RX5 16 "LookupBoard" "trial" "LLookupBoard$Board;", Cond.fieldLink RX5 32 "LookupBoard" "layer" "LLookupBoard$Layer;", Cond.methodLink RX5 61 yX0_hasCell, Cond.instanceMethod yX0_hasCell, Cond.selects RX0 yX0_hasCell yX0_hasCell, Cond.initialized RX0, Cond.code yX0_hasCell cX0_hasCell 2 (some .boolean), Cond.fieldLink RX0 9 "LookupBoard$Board" "tables" "[I", Cond.static yX5_isPlace, Cond.initialized RX5, Cond.code yX5_isPlace cX5_isPlace 1 (some .boolean), Cond.methodLink RX5 87 yX5_isInput, Cond.static yX5_isInput, Cond.code yX5_isInput cX5_isInput 1 (some .boolean), Cond.methodLink RX5 90 yX0_isSource, Cond.instanceMethod yX0_isSource, Cond.selects RX0 yX0_isSource yX0_isSource, Cond.code yX0_isSource cX0_isSource 2 (some .boolean), Cond.methodLink RX0 53 yX0_hasCell, Cond.methodLink RX5 93 yX0_sourceOf, Cond.instanceMethod yX0_sourceOf, Cond.selects RX0 yX0_sourceOf yX0_sourceOf, Cond.code yX0_sourceOf cX0_sourceOf 2 (some .int)]
def wsX5_connect_r2 : List Cond := [Cond.fieldLink RX0 15 "LookupBoard$Board" "sources" "[I", Cond.static yX5_isWire, Cond.code yX5_isWire cX5_isWire 1 (some .boolean), Cond.methodLink RX5 96 yX0_copyFrom, Cond.instanceMethod yX0_copyFrom, Cond.selects RX0 yX0_copyFrom yX0_copyFrom, Cond.code yX0_copyFrom cX0_copyFrom 2 none, Cond.methodLink RX0 40 arraycopyName, Cond.native arraycopyName, Cond.static arraycopyName, Cond.initialized "java/lang/System", Cond.fieldLink RX0 18 "LookupBoard$Board" "lengths" "[I", Cond.fieldLink RX0 21 "LookupBoard$Board" "junctions" "[I", Cond.fieldLink RX0 24 "LookupBoard$Board" "wiresHeld" "[I", Cond.fieldLink RX0 27 "LookupBoard$Board" "capacity" "I", Cond.fieldLink RX0 31 "LookupBoard$Board" "surcharge" "I", Cond.methodLink RX5 99 yX0_removeWire, Cond.instanceMethod yX0_removeWire, Cond.selects RX0 yX0_removeWire yX0_removeWire, Cond.code yX0_removeWire cX0_removeWire 4 none, Cond.methodLink RX0 86 yX0_lengthOf, Cond.instanceMethod yX0_lengthOf, Cond.selects RX0 yX0_lengthOf yX0_lengthOf, Cond.code yX0_lengthOf cX0_lengthOf 2 (some .int)]
def wsX5_connect_r3 : List Cond := [Cond.methodLink RX0 96 yX0_junctionAt, Cond.instanceMethod yX0_junctionAt, Cond.selects RX0 yX0_junctionAt yX0_junctionAt, Cond.code yX0_junctionAt cX0_junctionAt 5 (some .int), Cond.methodLink RX0 77 yX0_sourceOf, Cond.static yX5_junctionOf, Cond.code yX5_junctionOf cX5_junctionOf 1 (some .int), Cond.static yX5_segmentBetween, Cond.code yX5_segmentBetween cX5_segmentBetween 3 (some .int), Cond.fieldLink RX5 213 "LookupBoard" "STEPS" "[I", Cond.methodLink RX5 54 yX5_isPlace, Cond.methodLink RX5 217 yX5_segmentAt, Cond.static yX5_segmentAt, Cond.code yX5_segmentAt cX5_segmentAt 4 (some .int), Cond.methodLink RX5 102 yX0_changeSource, Cond.instanceMethod yX0_changeSource, Cond.selects RX0 yX0_changeSource yX0_changeSource, Cond.code yX0_changeSource cX0_changeSource 3 none, Cond.methodLink RX5 105 yX2_layWire, Cond.instanceMethod yX2_layWire, Cond.selects RX2 yX2_layWire yX2_layWire, Cond.initialized RX2, Cond.code yX2_layWire cX2_layWire 7 (some .boolean), Cond.fieldLink RX2 9 "LookupBoard$Layer" "costs" "[I"]
def wsX5_connect_r4 : List Cond := [Cond.constant RX2 46 (1000000), Cond.methodLink RX2 32 yX0_sourceOf, Cond.methodLink RX2 42 yX2_measureCosts, Cond.instanceMethod yX2_measureCosts, Cond.selects RX2 yX2_measureCosts yX2_measureCosts, Cond.code yX2_measureCosts cX2_measureCosts 8 none, Cond.methodLink RX2 58 yJ7_fill_53178, Cond.static yJ7_fill_53178, Cond.initialized RJ7, Cond.code yJ7_fill_53178 cJ7_fill_53178 4 none, Cond.methodLink RX2 64 yX2_costOver, Cond.instanceMethod yX2_costOver, Cond.selects RX2 yX2_costOver yX2_costOver, Cond.code yX2_costOver cX2_costOver 6 (some .int), Cond.methodLink RX2 75 yX0_priceOf, Cond.instanceMethod yX0_priceOf, Cond.selects RX0 yX0_priceOf yX0_priceOf, Cond.code yX0_priceOf cX0_priceOf 2 (some .int), Cond.constant RX0 99 (1000000), Cond.methodLink RX2 47 yX0_startWire, Cond.instanceMethod yX0_startWire, Cond.selects RX0 yX0_startWire yX0_startWire, Cond.code yX0_startWire cX0_startWire 3 none, Cond.methodLink RX2 51 yX2_nextJunction]
def wsX5_connect_r5 : List Cond := [Cond.instanceMethod yX2_nextJunction, Cond.selects RX2 yX2_nextJunction yX2_nextJunction, Cond.code yX2_nextJunction cX2_nextJunction 4 (some .int), Cond.methodLink RX2 55 yX0_extendWire, Cond.instanceMethod yX0_extendWire, Cond.selects RX0 yX0_extendWire yX0_extendWire, Cond.code yX0_extendWire cX0_extendWire 4 none, Cond.methodLink RX5 109 yX5_acceptTrial, Cond.instanceMethod yX5_acceptTrial, Cond.selects RX5 yX5_acceptTrial yX5_acceptTrial, Cond.code yX5_acceptTrial cX5_acceptTrial 1 none, Cond.fieldLink RX5 25 "LookupBoard" "history" "LLookupBoard$History;", Cond.methodLink RX5 64 yX1_remember, Cond.instanceMethod yX1_remember, Cond.selects RX1 yX1_remember yX1_remember, Cond.initialized RX1, Cond.code yX1_remember cX1_remember 3 none, Cond.fieldLink RX1 17 "LookupBoard$History" "size" "I", Cond.methodLink RX1 22 yX1_dropOldest, Cond.instanceMethod yX1_dropOldest, Cond.selects RX1 yX1_dropOldest yX1_dropOldest, Cond.code yX1_dropOldest cX1_dropOldest 3 none, Cond.fieldLink RX1 11 "LookupBoard$History" "states" "[LLookupBoard$Board;", Cond.methodLink RX1 25 yX1_stateAt]
def wsX5_connect_r6 : List Cond := [Cond.instanceMethod yX1_stateAt, Cond.selects RX1 yX1_stateAt yX1_stateAt, Cond.code yX1_stateAt cX1_stateAt 2 (some (.object "LookupBoard$Board")), Cond.methodLink RX1 29 yX0_copyFrom, Cond.methodLink RX5 112 yX0_lengthOf]
def wsX5_connect : List Cond := .code yX5_connect cX5_connect 5 (some .int) :: ((wsX5_connect_r1 ++ (wsX5_connect_r2 ++ (wsX5_connect_r3 ++ (wsX5_connect_r4 ++ (wsX5_connect_r5 ++ wsX5_connect_r6))))) ++ wsX50 ++ wsX00 ++ wsX20 ++ wsX10)
def wsX5_trySwap_r1 : List Cond := [Cond.fieldLink RX5 10 "LookupBoard" "board" "LLookupBoard$Board;", Cond.fieldLink RX5 16 "LookupBoard" "trial" "LLookupBoard$Board;", Cond.fieldLink RX5 32 "LookupBoard" "layer" "LLookupBoard$Layer;", Cond.methodLink RX5 54 yX5_isPlace, Cond.static yX5_isPlace, Cond.initialized RX5, Cond.code yX5_isPlace cX5_isPlace 1 (some .boolean), Cond.methodLink RX5 61 yX0_hasCell, Cond.instanceMethod yX0_hasCell, Cond.selects RX0 yX0_hasCell yX0_hasCell, Cond.initialized RX0, Cond.code yX0_hasCell cX0_hasCell 2 (some .boolean), Cond.fieldLink RX0 9 "LookupBoard$Board" "tables" "[I", Cond.methodLink RX5 96 yX0_copyFrom, Cond.instanceMethod yX0_copyFrom, Cond.selects RX0 yX0_copyFrom yX0_copyFrom, Cond.code yX0_copyFrom cX0_copyFrom 2 none, Cond.methodLink RX0 40 arraycopyName, Cond.native arraycopyName, Cond.static arraycopyName, Cond.initialized "java/lang/System", Cond.fieldLink RX0 15 "LookupBoard$Board" "sources" "[I", Cond.fieldLink RX0 18 "LookupBoard$Board" "lengths" "[I", Cond.fieldLink RX0 21 "LookupBoard$Board" "junctions" "[I"]
def wsX5_trySwap_r2 : List Cond := [Cond.fieldLink RX0 24 "LookupBoard$Board" "wiresHeld" "[I", Cond.fieldLink RX0 27 "LookupBoard$Board" "capacity" "I", Cond.fieldLink RX0 31 "LookupBoard$Board" "surcharge" "I", Cond.methodLink RX5 210 yX0_exchange, Cond.instanceMethod yX0_exchange, Cond.selects RX0 yX0_exchange yX0_exchange, Cond.code yX0_exchange cX0_exchange 6 none, Cond.methodLink RX0 80 yX0_tableOf, Cond.instanceMethod yX0_tableOf, Cond.selects RX0 yX0_tableOf yX0_tableOf, Cond.code yX0_tableOf cX0_tableOf 2 (some .int), Cond.methodLink RX0 67 yX0_changeTable, Cond.instanceMethod yX0_changeTable, Cond.selects RX0 yX0_changeTable yX0_changeTable, Cond.code yX0_changeTable cX0_changeTable 3 none, Cond.methodLink RX0 77 yX0_sourceOf, Cond.instanceMethod yX0_sourceOf, Cond.selects RX0 yX0_sourceOf yX0_sourceOf, Cond.code yX0_sourceOf cX0_sourceOf 2 (some .int), Cond.static yX5_isWire, Cond.code yX5_isWire cX5_isWire 1 (some .boolean), Cond.methodLink RX0 63 yX0_changeSource, Cond.instanceMethod yX0_changeSource, Cond.selects RX0 yX0_changeSource yX0_changeSource]
def wsX5_trySwap_r3 : List Cond := [Cond.code yX0_changeSource cX0_changeSource 3 none, Cond.methodLink RX5 142 yX2_layAll, Cond.instanceMethod yX2_layAll, Cond.selects RX2 yX2_layAll yX2_layAll, Cond.initialized RX2, Cond.code yX2_layAll cX2_layAll 7 (some .int), Cond.methodLink RX2 15 yX0_removeAllWires, Cond.instanceMethod yX0_removeAllWires, Cond.selects RX0 yX0_removeAllWires yX0_removeAllWires, Cond.code yX0_removeAllWires cX0_removeAllWires 1 none, Cond.methodLink RX0 34 yJ7_fill_53178, Cond.static yJ7_fill_53178, Cond.initialized RJ7, Cond.code yJ7_fill_53178 cJ7_fill_53178 4 none, Cond.methodLink RX2 20 yX0_distanceOf, Cond.instanceMethod yX0_distanceOf, Cond.selects RX0 yX0_distanceOf yX0_distanceOf, Cond.code yX0_distanceOf cX0_distanceOf 3 (some .int), Cond.static yX5_junctionOf, Cond.code yX5_junctionOf cX5_junctionOf 1 (some .int), Cond.static yX5_distanceBetween, Cond.code yX5_distanceBetween cX5_distanceBetween 2 (some .int), Cond.methodLink RX5 220 Lib.Math.abs.name, Cond.static Lib.Math.abs.name]
def wsX5_trySwap_r4 : List Cond := [Cond.initialized "java/lang/Math", Cond.code Lib.Math.abs.name Lib.Math.abs.code 1 (some .int), Cond.methodLink RX2 24 yX2_layWire, Cond.instanceMethod yX2_layWire, Cond.selects RX2 yX2_layWire yX2_layWire, Cond.code yX2_layWire cX2_layWire 7 (some .boolean), Cond.fieldLink RX2 9 "LookupBoard$Layer" "costs" "[I", Cond.constant RX2 46 (1000000), Cond.methodLink RX2 32 yX0_sourceOf, Cond.methodLink RX2 42 yX2_measureCosts, Cond.instanceMethod yX2_measureCosts, Cond.selects RX2 yX2_measureCosts yX2_measureCosts, Cond.code yX2_measureCosts cX2_measureCosts 8 none, Cond.methodLink RX2 58 yJ7_fill_53178, Cond.methodLink RX2 64 yX2_costOver, Cond.instanceMethod yX2_costOver, Cond.selects RX2 yX2_costOver yX2_costOver, Cond.code yX2_costOver cX2_costOver 6 (some .int), Cond.static yX5_segmentAt, Cond.code yX5_segmentAt cX5_segmentAt 4 (some .int), Cond.methodLink RX2 75 yX0_priceOf, Cond.instanceMethod yX0_priceOf, Cond.selects RX0 yX0_priceOf yX0_priceOf, Cond.code yX0_priceOf cX0_priceOf 2 (some .int)]
def wsX5_trySwap_r5 : List Cond := [Cond.constant RX0 99 (1000000), Cond.methodLink RX2 47 yX0_startWire, Cond.instanceMethod yX0_startWire, Cond.selects RX0 yX0_startWire yX0_startWire, Cond.code yX0_startWire cX0_startWire 3 none, Cond.methodLink RX2 51 yX2_nextJunction, Cond.instanceMethod yX2_nextJunction, Cond.selects RX2 yX2_nextJunction yX2_nextJunction, Cond.code yX2_nextJunction cX2_nextJunction 4 (some .int), Cond.methodLink RX2 55 yX0_extendWire, Cond.instanceMethod yX0_extendWire, Cond.selects RX0 yX0_extendWire yX0_extendWire, Cond.code yX0_extendWire cX0_extendWire 4 none, Cond.static yX5_segmentBetween, Cond.code yX5_segmentBetween cX5_segmentBetween 3 (some .int), Cond.fieldLink RX5 213 "LookupBoard" "STEPS" "[I", Cond.methodLink RX5 217 yX5_segmentAt, Cond.methodLink RX2 28 yX0_segmentsOfAll, Cond.instanceMethod yX0_segmentsOfAll, Cond.selects RX0 yX0_segmentsOfAll yX0_segmentsOfAll, Cond.code yX0_segmentsOfAll cX0_segmentsOfAll 3 (some .int)]
def wsX5_trySwap : List Cond := .code yX5_trySwap cX5_trySwap 3 (some .int) :: ((wsX5_trySwap_r1 ++ (wsX5_trySwap_r2 ++ (wsX5_trySwap_r3 ++ (wsX5_trySwap_r4 ++ wsX5_trySwap_r5)))) ++ wsX50 ++ wsX00 ++ wsX20)
def wsX5_swap_r1 : List Cond := [Cond.methodLink RX5 115 yX5_trySwap, Cond.instanceMethod yX5_trySwap, Cond.selects RX5 yX5_trySwap yX5_trySwap, Cond.initialized RX5, Cond.code yX5_trySwap cX5_trySwap 3 (some .int), Cond.fieldLink RX5 10 "LookupBoard" "board" "LLookupBoard$Board;", Cond.fieldLink RX5 16 "LookupBoard" "trial" "LLookupBoard$Board;", Cond.fieldLink RX5 32 "LookupBoard" "layer" "LLookupBoard$Layer;", Cond.methodLink RX5 54 yX5_isPlace, Cond.static yX5_isPlace, Cond.code yX5_isPlace cX5_isPlace 1 (some .boolean), Cond.methodLink RX5 61 yX0_hasCell, Cond.instanceMethod yX0_hasCell, Cond.selects RX0 yX0_hasCell yX0_hasCell, Cond.initialized RX0, Cond.code yX0_hasCell cX0_hasCell 2 (some .boolean), Cond.fieldLink RX0 9 "LookupBoard$Board" "tables" "[I", Cond.methodLink RX5 96 yX0_copyFrom, Cond.instanceMethod yX0_copyFrom, Cond.selects RX0 yX0_copyFrom yX0_copyFrom, Cond.code yX0_copyFrom cX0_copyFrom 2 none, Cond.methodLink RX0 40 arraycopyName, Cond.native arraycopyName, Cond.static arraycopyName]
def wsX5_swap_r2 : List Cond := [Cond.initialized "java/lang/System", Cond.fieldLink RX0 15 "LookupBoard$Board" "sources" "[I", Cond.fieldLink RX0 18 "LookupBoard$Board" "lengths" "[I", Cond.fieldLink RX0 21 "LookupBoard$Board" "junctions" "[I", Cond.fieldLink RX0 24 "LookupBoard$Board" "wiresHeld" "[I", Cond.fieldLink RX0 27 "LookupBoard$Board" "capacity" "I", Cond.fieldLink RX0 31 "LookupBoard$Board" "surcharge" "I", Cond.methodLink RX5 210 yX0_exchange, Cond.instanceMethod yX0_exchange, Cond.selects RX0 yX0_exchange yX0_exchange, Cond.code yX0_exchange cX0_exchange 6 none, Cond.methodLink RX0 80 yX0_tableOf, Cond.instanceMethod yX0_tableOf, Cond.selects RX0 yX0_tableOf yX0_tableOf, Cond.code yX0_tableOf cX0_tableOf 2 (some .int), Cond.methodLink RX0 67 yX0_changeTable, Cond.instanceMethod yX0_changeTable, Cond.selects RX0 yX0_changeTable yX0_changeTable, Cond.code yX0_changeTable cX0_changeTable 3 none, Cond.methodLink RX0 77 yX0_sourceOf, Cond.instanceMethod yX0_sourceOf, Cond.selects RX0 yX0_sourceOf yX0_sourceOf, Cond.code yX0_sourceOf cX0_sourceOf 2 (some .int), Cond.static yX5_isWire]
def wsX5_swap_r3 : List Cond := [Cond.code yX5_isWire cX5_isWire 1 (some .boolean), Cond.methodLink RX0 63 yX0_changeSource, Cond.instanceMethod yX0_changeSource, Cond.selects RX0 yX0_changeSource yX0_changeSource, Cond.code yX0_changeSource cX0_changeSource 3 none, Cond.methodLink RX5 142 yX2_layAll, Cond.instanceMethod yX2_layAll, Cond.selects RX2 yX2_layAll yX2_layAll, Cond.initialized RX2, Cond.code yX2_layAll cX2_layAll 7 (some .int), Cond.methodLink RX2 15 yX0_removeAllWires, Cond.instanceMethod yX0_removeAllWires, Cond.selects RX0 yX0_removeAllWires yX0_removeAllWires, Cond.code yX0_removeAllWires cX0_removeAllWires 1 none, Cond.methodLink RX0 34 yJ7_fill_53178, Cond.static yJ7_fill_53178, Cond.initialized RJ7, Cond.code yJ7_fill_53178 cJ7_fill_53178 4 none, Cond.methodLink RX2 20 yX0_distanceOf, Cond.instanceMethod yX0_distanceOf, Cond.selects RX0 yX0_distanceOf yX0_distanceOf, Cond.code yX0_distanceOf cX0_distanceOf 3 (some .int), Cond.static yX5_junctionOf, Cond.code yX5_junctionOf cX5_junctionOf 1 (some .int)]
def wsX5_swap_r4 : List Cond := [Cond.static yX5_distanceBetween, Cond.code yX5_distanceBetween cX5_distanceBetween 2 (some .int), Cond.methodLink RX5 220 Lib.Math.abs.name, Cond.static Lib.Math.abs.name, Cond.initialized "java/lang/Math", Cond.code Lib.Math.abs.name Lib.Math.abs.code 1 (some .int), Cond.methodLink RX2 24 yX2_layWire, Cond.instanceMethod yX2_layWire, Cond.selects RX2 yX2_layWire yX2_layWire, Cond.code yX2_layWire cX2_layWire 7 (some .boolean), Cond.fieldLink RX2 9 "LookupBoard$Layer" "costs" "[I", Cond.constant RX2 46 (1000000), Cond.methodLink RX2 32 yX0_sourceOf, Cond.methodLink RX2 42 yX2_measureCosts, Cond.instanceMethod yX2_measureCosts, Cond.selects RX2 yX2_measureCosts yX2_measureCosts, Cond.code yX2_measureCosts cX2_measureCosts 8 none, Cond.methodLink RX2 58 yJ7_fill_53178, Cond.methodLink RX2 64 yX2_costOver, Cond.instanceMethod yX2_costOver, Cond.selects RX2 yX2_costOver yX2_costOver, Cond.code yX2_costOver cX2_costOver 6 (some .int), Cond.static yX5_segmentAt, Cond.code yX5_segmentAt cX5_segmentAt 4 (some .int)]
def wsX5_swap_r5 : List Cond := [Cond.methodLink RX2 75 yX0_priceOf, Cond.instanceMethod yX0_priceOf, Cond.selects RX0 yX0_priceOf yX0_priceOf, Cond.code yX0_priceOf cX0_priceOf 2 (some .int), Cond.constant RX0 99 (1000000), Cond.methodLink RX2 47 yX0_startWire, Cond.instanceMethod yX0_startWire, Cond.selects RX0 yX0_startWire yX0_startWire, Cond.code yX0_startWire cX0_startWire 3 none, Cond.methodLink RX2 51 yX2_nextJunction, Cond.instanceMethod yX2_nextJunction, Cond.selects RX2 yX2_nextJunction yX2_nextJunction, Cond.code yX2_nextJunction cX2_nextJunction 4 (some .int), Cond.methodLink RX2 55 yX0_extendWire, Cond.instanceMethod yX0_extendWire, Cond.selects RX0 yX0_extendWire yX0_extendWire, Cond.code yX0_extendWire cX0_extendWire 4 none, Cond.static yX5_segmentBetween, Cond.code yX5_segmentBetween cX5_segmentBetween 3 (some .int), Cond.fieldLink RX5 213 "LookupBoard" "STEPS" "[I", Cond.methodLink RX5 217 yX5_segmentAt, Cond.methodLink RX2 28 yX0_segmentsOfAll, Cond.instanceMethod yX0_segmentsOfAll, Cond.selects RX0 yX0_segmentsOfAll yX0_segmentsOfAll]
def wsX5_swap_r6 : List Cond := [Cond.code yX0_segmentsOfAll cX0_segmentsOfAll 3 (some .int), Cond.methodLink RX5 109 yX5_acceptTrial, Cond.instanceMethod yX5_acceptTrial, Cond.selects RX5 yX5_acceptTrial yX5_acceptTrial, Cond.code yX5_acceptTrial cX5_acceptTrial 1 none, Cond.fieldLink RX5 25 "LookupBoard" "history" "LLookupBoard$History;", Cond.methodLink RX5 64 yX1_remember, Cond.instanceMethod yX1_remember, Cond.selects RX1 yX1_remember yX1_remember, Cond.initialized RX1, Cond.code yX1_remember cX1_remember 3 none, Cond.fieldLink RX1 17 "LookupBoard$History" "size" "I", Cond.methodLink RX1 22 yX1_dropOldest, Cond.instanceMethod yX1_dropOldest, Cond.selects RX1 yX1_dropOldest yX1_dropOldest, Cond.code yX1_dropOldest cX1_dropOldest 3 none, Cond.fieldLink RX1 11 "LookupBoard$History" "states" "[LLookupBoard$Board;", Cond.methodLink RX1 25 yX1_stateAt, Cond.instanceMethod yX1_stateAt, Cond.selects RX1 yX1_stateAt yX1_stateAt, Cond.code yX1_stateAt cX1_stateAt 2 (some (.object "LookupBoard$Board")), Cond.methodLink RX1 29 yX0_copyFrom]
def wsX5_swap : List Cond := .code yX5_swap cX5_swap 4 (some .int) :: ((wsX5_swap_r1 ++ (wsX5_swap_r2 ++ (wsX5_swap_r3 ++ (wsX5_swap_r4 ++ (wsX5_swap_r5 ++ wsX5_swap_r6))))) ++ wsX50 ++ wsX00 ++ wsX20 ++ wsX10)
def wsX5_tryOrder_r1 : List Cond := [Cond.fieldLink RX5 16 "LookupBoard" "trial" "LLookupBoard$Board;", Cond.fieldLink RX5 10 "LookupBoard" "board" "LLookupBoard$Board;", Cond.fieldLink RX5 32 "LookupBoard" "layer" "LLookupBoard$Layer;", Cond.methodLink RX5 96 yX0_copyFrom, Cond.instanceMethod yX0_copyFrom, Cond.selects RX0 yX0_copyFrom yX0_copyFrom, Cond.initialized RX0, Cond.code yX0_copyFrom cX0_copyFrom 2 none, Cond.fieldLink RX0 9 "LookupBoard$Board" "tables" "[I", Cond.methodLink RX0 40 arraycopyName, Cond.native arraycopyName, Cond.static arraycopyName, Cond.initialized "java/lang/System", Cond.fieldLink RX0 15 "LookupBoard$Board" "sources" "[I", Cond.fieldLink RX0 18 "LookupBoard$Board" "lengths" "[I", Cond.fieldLink RX0 21 "LookupBoard$Board" "junctions" "[I", Cond.fieldLink RX0 24 "LookupBoard$Board" "wiresHeld" "[I", Cond.fieldLink RX0 27 "LookupBoard$Board" "capacity" "I", Cond.fieldLink RX0 31 "LookupBoard$Board" "surcharge" "I", Cond.methodLink RX5 142 yX2_layAll, Cond.instanceMethod yX2_layAll, Cond.selects RX2 yX2_layAll yX2_layAll, Cond.initialized RX2, Cond.code yX2_layAll cX2_layAll 7 (some .int)]
def wsX5_tryOrder_r2 : List Cond := [Cond.methodLink RX2 15 yX0_removeAllWires, Cond.instanceMethod yX0_removeAllWires, Cond.selects RX0 yX0_removeAllWires yX0_removeAllWires, Cond.code yX0_removeAllWires cX0_removeAllWires 1 none, Cond.methodLink RX0 34 yJ7_fill_53178, Cond.static yJ7_fill_53178, Cond.initialized RJ7, Cond.code yJ7_fill_53178 cJ7_fill_53178 4 none, Cond.methodLink RX2 20 yX0_distanceOf, Cond.instanceMethod yX0_distanceOf, Cond.selects RX0 yX0_distanceOf yX0_distanceOf, Cond.code yX0_distanceOf cX0_distanceOf 3 (some .int), Cond.methodLink RX0 77 yX0_sourceOf, Cond.instanceMethod yX0_sourceOf, Cond.selects RX0 yX0_sourceOf yX0_sourceOf, Cond.code yX0_sourceOf cX0_sourceOf 2 (some .int), Cond.static yX5_isWire, Cond.initialized RX5, Cond.code yX5_isWire cX5_isWire 1 (some .boolean), Cond.static yX5_junctionOf, Cond.code yX5_junctionOf cX5_junctionOf 1 (some .int), Cond.static yX5_distanceBetween, Cond.code yX5_distanceBetween cX5_distanceBetween 2 (some .int), Cond.methodLink RX5 220 Lib.Math.abs.name]
def wsX5_tryOrder_r3 : List Cond := [Cond.static Lib.Math.abs.name, Cond.initialized "java/lang/Math", Cond.code Lib.Math.abs.name Lib.Math.abs.code 1 (some .int), Cond.methodLink RX2 24 yX2_layWire, Cond.instanceMethod yX2_layWire, Cond.selects RX2 yX2_layWire yX2_layWire, Cond.code yX2_layWire cX2_layWire 7 (some .boolean), Cond.fieldLink RX2 9 "LookupBoard$Layer" "costs" "[I", Cond.constant RX2 46 (1000000), Cond.methodLink RX2 32 yX0_sourceOf, Cond.static yX5_isPlace, Cond.code yX5_isPlace cX5_isPlace 1 (some .boolean), Cond.methodLink RX2 42 yX2_measureCosts, Cond.instanceMethod yX2_measureCosts, Cond.selects RX2 yX2_measureCosts yX2_measureCosts, Cond.code yX2_measureCosts cX2_measureCosts 8 none, Cond.methodLink RX2 58 yJ7_fill_53178, Cond.methodLink RX2 64 yX2_costOver, Cond.instanceMethod yX2_costOver, Cond.selects RX2 yX2_costOver yX2_costOver, Cond.code yX2_costOver cX2_costOver 6 (some .int), Cond.static yX5_segmentAt, Cond.code yX5_segmentAt cX5_segmentAt 4 (some .int), Cond.methodLink RX2 75 yX0_priceOf]
def wsX5_tryOrder_r4 : List Cond := [Cond.instanceMethod yX0_priceOf, Cond.selects RX0 yX0_priceOf yX0_priceOf, Cond.code yX0_priceOf cX0_priceOf 2 (some .int), Cond.constant RX0 99 (1000000), Cond.methodLink RX2 47 yX0_startWire, Cond.instanceMethod yX0_startWire, Cond.selects RX0 yX0_startWire yX0_startWire, Cond.code yX0_startWire cX0_startWire 3 none, Cond.methodLink RX2 51 yX2_nextJunction, Cond.instanceMethod yX2_nextJunction, Cond.selects RX2 yX2_nextJunction yX2_nextJunction, Cond.code yX2_nextJunction cX2_nextJunction 4 (some .int), Cond.methodLink RX2 55 yX0_extendWire, Cond.instanceMethod yX0_extendWire, Cond.selects RX0 yX0_extendWire yX0_extendWire, Cond.code yX0_extendWire cX0_extendWire 4 none, Cond.static yX5_segmentBetween, Cond.code yX5_segmentBetween cX5_segmentBetween 3 (some .int), Cond.fieldLink RX5 213 "LookupBoard" "STEPS" "[I", Cond.methodLink RX5 54 yX5_isPlace, Cond.methodLink RX5 217 yX5_segmentAt, Cond.methodLink RX2 28 yX0_segmentsOfAll, Cond.instanceMethod yX0_segmentsOfAll, Cond.selects RX0 yX0_segmentsOfAll yX0_segmentsOfAll]
def wsX5_tryOrder_r5 : List Cond := [Cond.code yX0_segmentsOfAll cX0_segmentsOfAll 3 (some .int)]
def wsX5_tryOrder : List Cond := .code yX5_tryOrder cX5_tryOrder 2 (some .int) :: ((wsX5_tryOrder_r1 ++ (wsX5_tryOrder_r2 ++ (wsX5_tryOrder_r3 ++ (wsX5_tryOrder_r4 ++ wsX5_tryOrder_r5)))) ++ wsX50 ++ wsX00 ++ wsX20)
def wsX5_layAnew_r1 : List Cond := [Cond.methodLink RX5 119 yX5_tryOrder, Cond.instanceMethod yX5_tryOrder, Cond.selects RX5 yX5_tryOrder yX5_tryOrder, Cond.initialized RX5, Cond.code yX5_tryOrder cX5_tryOrder 2 (some .int), Cond.fieldLink RX5 16 "LookupBoard" "trial" "LLookupBoard$Board;", Cond.fieldLink RX5 10 "LookupBoard" "board" "LLookupBoard$Board;", Cond.fieldLink RX5 32 "LookupBoard" "layer" "LLookupBoard$Layer;", Cond.methodLink RX5 96 yX0_copyFrom, Cond.instanceMethod yX0_copyFrom, Cond.selects RX0 yX0_copyFrom yX0_copyFrom, Cond.initialized RX0, Cond.code yX0_copyFrom cX0_copyFrom 2 none, Cond.fieldLink RX0 9 "LookupBoard$Board" "tables" "[I", Cond.methodLink RX0 40 arraycopyName, Cond.native arraycopyName, Cond.static arraycopyName, Cond.initialized "java/lang/System", Cond.fieldLink RX0 15 "LookupBoard$Board" "sources" "[I", Cond.fieldLink RX0 18 "LookupBoard$Board" "lengths" "[I", Cond.fieldLink RX0 21 "LookupBoard$Board" "junctions" "[I", Cond.fieldLink RX0 24 "LookupBoard$Board" "wiresHeld" "[I", Cond.fieldLink RX0 27 "LookupBoard$Board" "capacity" "I", Cond.fieldLink RX0 31 "LookupBoard$Board" "surcharge" "I"]
def wsX5_layAnew_r2 : List Cond := [Cond.methodLink RX5 142 yX2_layAll, Cond.instanceMethod yX2_layAll, Cond.selects RX2 yX2_layAll yX2_layAll, Cond.initialized RX2, Cond.code yX2_layAll cX2_layAll 7 (some .int), Cond.methodLink RX2 15 yX0_removeAllWires, Cond.instanceMethod yX0_removeAllWires, Cond.selects RX0 yX0_removeAllWires yX0_removeAllWires, Cond.code yX0_removeAllWires cX0_removeAllWires 1 none, Cond.methodLink RX0 34 yJ7_fill_53178, Cond.static yJ7_fill_53178, Cond.initialized RJ7, Cond.code yJ7_fill_53178 cJ7_fill_53178 4 none, Cond.methodLink RX2 20 yX0_distanceOf, Cond.instanceMethod yX0_distanceOf, Cond.selects RX0 yX0_distanceOf yX0_distanceOf, Cond.code yX0_distanceOf cX0_distanceOf 3 (some .int), Cond.methodLink RX0 77 yX0_sourceOf, Cond.instanceMethod yX0_sourceOf, Cond.selects RX0 yX0_sourceOf yX0_sourceOf, Cond.code yX0_sourceOf cX0_sourceOf 2 (some .int), Cond.static yX5_isWire, Cond.code yX5_isWire cX5_isWire 1 (some .boolean), Cond.static yX5_junctionOf]
def wsX5_layAnew_r3 : List Cond := [Cond.code yX5_junctionOf cX5_junctionOf 1 (some .int), Cond.static yX5_distanceBetween, Cond.code yX5_distanceBetween cX5_distanceBetween 2 (some .int), Cond.methodLink RX5 220 Lib.Math.abs.name, Cond.static Lib.Math.abs.name, Cond.initialized "java/lang/Math", Cond.code Lib.Math.abs.name Lib.Math.abs.code 1 (some .int), Cond.methodLink RX2 24 yX2_layWire, Cond.instanceMethod yX2_layWire, Cond.selects RX2 yX2_layWire yX2_layWire, Cond.code yX2_layWire cX2_layWire 7 (some .boolean), Cond.fieldLink RX2 9 "LookupBoard$Layer" "costs" "[I", Cond.constant RX2 46 (1000000), Cond.methodLink RX2 32 yX0_sourceOf, Cond.static yX5_isPlace, Cond.code yX5_isPlace cX5_isPlace 1 (some .boolean), Cond.methodLink RX2 42 yX2_measureCosts, Cond.instanceMethod yX2_measureCosts, Cond.selects RX2 yX2_measureCosts yX2_measureCosts, Cond.code yX2_measureCosts cX2_measureCosts 8 none, Cond.methodLink RX2 58 yJ7_fill_53178, Cond.methodLink RX2 64 yX2_costOver, Cond.instanceMethod yX2_costOver, Cond.selects RX2 yX2_costOver yX2_costOver]
def wsX5_layAnew_r4 : List Cond := [Cond.code yX2_costOver cX2_costOver 6 (some .int), Cond.static yX5_segmentAt, Cond.code yX5_segmentAt cX5_segmentAt 4 (some .int), Cond.methodLink RX2 75 yX0_priceOf, Cond.instanceMethod yX0_priceOf, Cond.selects RX0 yX0_priceOf yX0_priceOf, Cond.code yX0_priceOf cX0_priceOf 2 (some .int), Cond.constant RX0 99 (1000000), Cond.methodLink RX2 47 yX0_startWire, Cond.instanceMethod yX0_startWire, Cond.selects RX0 yX0_startWire yX0_startWire, Cond.code yX0_startWire cX0_startWire 3 none, Cond.methodLink RX2 51 yX2_nextJunction, Cond.instanceMethod yX2_nextJunction, Cond.selects RX2 yX2_nextJunction yX2_nextJunction, Cond.code yX2_nextJunction cX2_nextJunction 4 (some .int), Cond.methodLink RX2 55 yX0_extendWire, Cond.instanceMethod yX0_extendWire, Cond.selects RX0 yX0_extendWire yX0_extendWire, Cond.code yX0_extendWire cX0_extendWire 4 none, Cond.static yX5_segmentBetween, Cond.code yX5_segmentBetween cX5_segmentBetween 3 (some .int), Cond.fieldLink RX5 213 "LookupBoard" "STEPS" "[I", Cond.methodLink RX5 54 yX5_isPlace]
def wsX5_layAnew_r5 : List Cond := [Cond.methodLink RX5 217 yX5_segmentAt, Cond.methodLink RX2 28 yX0_segmentsOfAll, Cond.instanceMethod yX0_segmentsOfAll, Cond.selects RX0 yX0_segmentsOfAll yX0_segmentsOfAll, Cond.code yX0_segmentsOfAll cX0_segmentsOfAll 3 (some .int), Cond.methodLink RX5 109 yX5_acceptTrial, Cond.instanceMethod yX5_acceptTrial, Cond.selects RX5 yX5_acceptTrial yX5_acceptTrial, Cond.code yX5_acceptTrial cX5_acceptTrial 1 none, Cond.fieldLink RX5 25 "LookupBoard" "history" "LLookupBoard$History;", Cond.methodLink RX5 64 yX1_remember, Cond.instanceMethod yX1_remember, Cond.selects RX1 yX1_remember yX1_remember, Cond.initialized RX1, Cond.code yX1_remember cX1_remember 3 none, Cond.fieldLink RX1 17 "LookupBoard$History" "size" "I", Cond.methodLink RX1 22 yX1_dropOldest, Cond.instanceMethod yX1_dropOldest, Cond.selects RX1 yX1_dropOldest yX1_dropOldest, Cond.code yX1_dropOldest cX1_dropOldest 3 none, Cond.fieldLink RX1 11 "LookupBoard$History" "states" "[LLookupBoard$Board;", Cond.methodLink RX1 25 yX1_stateAt, Cond.instanceMethod yX1_stateAt, Cond.selects RX1 yX1_stateAt yX1_stateAt]
def wsX5_layAnew_r6 : List Cond := [Cond.code yX1_stateAt cX1_stateAt 2 (some (.object "LookupBoard$Board")), Cond.methodLink RX1 29 yX0_copyFrom]
def wsX5_layAnew : List Cond := .code yX5_layAnew cX5_layAnew 3 (some .int) :: ((wsX5_layAnew_r1 ++ (wsX5_layAnew_r2 ++ (wsX5_layAnew_r3 ++ (wsX5_layAnew_r4 ++ (wsX5_layAnew_r5 ++ wsX5_layAnew_r6))))) ++ wsX50 ++ wsX00 ++ wsX20 ++ wsX10)
def wsX5_set_r1 : List Cond := [Cond.fieldLink RX5 10 "LookupBoard" "board" "LLookupBoard$Board;", Cond.fieldLink RX5 25 "LookupBoard" "history" "LLookupBoard$History;", Cond.methodLink RX5 122 yX0_mostHeld, Cond.instanceMethod yX0_mostHeld, Cond.selects RX0 yX0_mostHeld yX0_mostHeld, Cond.initialized RX0, Cond.code yX0_mostHeld cX0_mostHeld 3 (some .int), Cond.fieldLink RX0 24 "LookupBoard$Board" "wiresHeld" "[I", Cond.methodLink RX0 100 Lib.Math.max.name, Cond.static Lib.Math.max.name, Cond.initialized "java/lang/Math", Cond.code Lib.Math.max.name Lib.Math.max.code 2 (some .int), Cond.methodLink RX5 125 yX0_setting, Cond.instanceMethod yX0_setting, Cond.selects RX0 yX0_setting yX0_setting, Cond.code yX0_setting cX0_setting 2 (some .int), Cond.fieldLink RX0 27 "LookupBoard$Board" "capacity" "I", Cond.fieldLink RX0 31 "LookupBoard$Board" "surcharge" "I", Cond.methodLink RX5 64 yX1_remember, Cond.instanceMethod yX1_remember, Cond.selects RX1 yX1_remember yX1_remember, Cond.initialized RX1, Cond.code yX1_remember cX1_remember 3 none, Cond.fieldLink RX1 17 "LookupBoard$History" "size" "I"]
def wsX5_set_r2 : List Cond := [Cond.methodLink RX1 22 yX1_dropOldest, Cond.instanceMethod yX1_dropOldest, Cond.selects RX1 yX1_dropOldest yX1_dropOldest, Cond.code yX1_dropOldest cX1_dropOldest 3 none, Cond.fieldLink RX1 11 "LookupBoard$History" "states" "[LLookupBoard$Board;", Cond.methodLink RX1 25 yX1_stateAt, Cond.instanceMethod yX1_stateAt, Cond.selects RX1 yX1_stateAt yX1_stateAt, Cond.code yX1_stateAt cX1_stateAt 2 (some (.object "LookupBoard$Board")), Cond.methodLink RX1 29 yX0_copyFrom, Cond.instanceMethod yX0_copyFrom, Cond.selects RX0 yX0_copyFrom yX0_copyFrom, Cond.code yX0_copyFrom cX0_copyFrom 2 none, Cond.fieldLink RX0 9 "LookupBoard$Board" "tables" "[I", Cond.methodLink RX0 40 arraycopyName, Cond.native arraycopyName, Cond.static arraycopyName, Cond.initialized "java/lang/System", Cond.fieldLink RX0 15 "LookupBoard$Board" "sources" "[I", Cond.fieldLink RX0 18 "LookupBoard$Board" "lengths" "[I", Cond.fieldLink RX0 21 "LookupBoard$Board" "junctions" "[I", Cond.methodLink RX5 128 yX0_changeSetting, Cond.instanceMethod yX0_changeSetting, Cond.selects RX0 yX0_changeSetting yX0_changeSetting]
def wsX5_set_r3 : List Cond := [Cond.code yX0_changeSetting cX0_changeSetting 3 none]
def wsX5_set : List Cond := .code yX5_set cX5_set 5 (some .int) :: ((wsX5_set_r1 ++ (wsX5_set_r2 ++ wsX5_set_r3)) ++ wsX50 ++ wsX00 ++ wsX10)
def wsX5_load_r1 : List Cond := [Cond.fieldLink RX5 16 "LookupBoard" "trial" "LLookupBoard$Board;", Cond.fieldLink RX5 10 "LookupBoard" "board" "LLookupBoard$Board;", Cond.fieldLink RX5 46 "LookupBoard" "text" "LLookupBoard$PlanText;", Cond.fieldLink RX5 32 "LookupBoard" "layer" "LLookupBoard$Layer;", Cond.methodLink RX5 96 yX0_copyFrom, Cond.instanceMethod yX0_copyFrom, Cond.selects RX0 yX0_copyFrom yX0_copyFrom, Cond.initialized RX0, Cond.code yX0_copyFrom cX0_copyFrom 2 none, Cond.fieldLink RX0 9 "LookupBoard$Board" "tables" "[I", Cond.methodLink RX0 40 arraycopyName, Cond.native arraycopyName, Cond.static arraycopyName, Cond.initialized "java/lang/System", Cond.fieldLink RX0 15 "LookupBoard$Board" "sources" "[I", Cond.fieldLink RX0 18 "LookupBoard$Board" "lengths" "[I", Cond.fieldLink RX0 21 "LookupBoard$Board" "junctions" "[I", Cond.fieldLink RX0 24 "LookupBoard$Board" "wiresHeld" "[I", Cond.fieldLink RX0 27 "LookupBoard$Board" "capacity" "I", Cond.fieldLink RX0 31 "LookupBoard$Board" "surcharge" "I", Cond.methodLink RX5 131 yX0_removeAllCells, Cond.instanceMethod yX0_removeAllCells, Cond.selects RX0 yX0_removeAllCells yX0_removeAllCells, Cond.code yX0_removeAllCells cX0_removeAllCells 1 none]
def wsX5_load_r2 : List Cond := [Cond.methodLink RX0 70 yX0_removeAllWires, Cond.instanceMethod yX0_removeAllWires, Cond.selects RX0 yX0_removeAllWires yX0_removeAllWires, Cond.code yX0_removeAllWires cX0_removeAllWires 1 none, Cond.methodLink RX0 34 yJ7_fill_53178, Cond.static yJ7_fill_53178, Cond.initialized RJ7, Cond.code yJ7_fill_53178 cJ7_fill_53178 4 none, Cond.methodLink RX5 134 yX4_readInto, Cond.instanceMethod yX4_readInto, Cond.selects RX4 yX4_readInto yX4_readInto, Cond.initialized RX4, Cond.code yX4_readInto cX4_readInto 3 (some .int), Cond.fieldLink RX4 19 "LookupBoard$PlanText" "at" "I", Cond.fieldLink RX4 15 "LookupBoard$PlanText" "length" "I", Cond.methodLink RX4 22 yX4_readCell, Cond.instanceMethod yX4_readCell, Cond.selects RX4 yX4_readCell yX4_readCell, Cond.code yX4_readCell cX4_readCell 7 (some .boolean), Cond.methodLink RX4 30 yX4_readNumber, Cond.instanceMethod yX4_readNumber, Cond.selects RX4 yX4_readNumber yX4_readNumber, Cond.code yX4_readNumber cX4_readNumber 4 (some .int), Cond.methodLink RX4 50 yX4_digitHere]
def wsX5_load_r3 : List Cond := [Cond.instanceMethod yX4_digitHere, Cond.selects RX4 yX4_digitHere yX4_digitHere, Cond.code yX4_digitHere cX4_digitHere 2 (some .int), Cond.methodLink RX4 53 yX4_signHere, Cond.instanceMethod yX4_signHere, Cond.selects RX4 yX4_signHere yX4_signHere, Cond.code yX4_signHere cX4_signHere 1 (some .int), Cond.fieldLink RX4 9 "LookupBoard$PlanText" "signs" "[C", Cond.methodLink RX4 26 yX4_pass, Cond.instanceMethod yX4_pass, Cond.selects RX4 yX4_pass yX4_pass, Cond.code yX4_pass cX4_pass 2 (some .boolean), Cond.methodLink RX4 34 yX4_readTableSign, Cond.instanceMethod yX4_readTableSign, Cond.selects RX4 yX4_readTableSign yX4_readTableSign, Cond.code yX4_readTableSign cX4_readTableSign 3 (some .int), Cond.methodLink RX4 38 yX0_changeTable, Cond.instanceMethod yX0_changeTable, Cond.selects RX0 yX0_changeTable yX0_changeTable, Cond.code yX0_changeTable cX0_changeTable 3 none, Cond.static yX5_isPlace, Cond.initialized RX5, Cond.code yX5_isPlace cX5_isPlace 1 (some .boolean), Cond.methodLink RX4 44 yX4_readSource]
def wsX5_load_r4 : List Cond := [Cond.instanceMethod yX4_readSource, Cond.selects RX4 yX4_readSource yX4_readSource, Cond.code yX4_readSource cX4_readSource 2 (some .int), Cond.methodLink RX4 47 yX0_changeSource, Cond.instanceMethod yX0_changeSource, Cond.selects RX0 yX0_changeSource yX0_changeSource, Cond.code yX0_changeSource cX0_changeSource 3 none, Cond.static yX5_isWire, Cond.code yX5_isWire cX5_isWire 1 (some .boolean), Cond.methodLink RX5 138 yX0_hasAllSources, Cond.instanceMethod yX0_hasAllSources, Cond.selects RX0 yX0_hasAllSources yX0_hasAllSources, Cond.code yX0_hasAllSources cX0_hasAllSources 2 (some .boolean), Cond.methodLink RX0 56 yX0_isSource, Cond.instanceMethod yX0_isSource, Cond.selects RX0 yX0_isSource yX0_isSource, Cond.code yX0_isSource cX0_isSource 2 (some .boolean), Cond.methodLink RX0 53 yX0_hasCell, Cond.instanceMethod yX0_hasCell, Cond.selects RX0 yX0_hasCell yX0_hasCell, Cond.code yX0_hasCell cX0_hasCell 2 (some .boolean), Cond.methodLink RX5 142 yX2_layAll, Cond.instanceMethod yX2_layAll, Cond.selects RX2 yX2_layAll yX2_layAll]
def wsX5_load_r5 : List Cond := [Cond.initialized RX2, Cond.code yX2_layAll cX2_layAll 7 (some .int), Cond.methodLink RX2 15 yX0_removeAllWires, Cond.methodLink RX2 20 yX0_distanceOf, Cond.instanceMethod yX0_distanceOf, Cond.selects RX0 yX0_distanceOf yX0_distanceOf, Cond.code yX0_distanceOf cX0_distanceOf 3 (some .int), Cond.methodLink RX0 77 yX0_sourceOf, Cond.instanceMethod yX0_sourceOf, Cond.selects RX0 yX0_sourceOf yX0_sourceOf, Cond.code yX0_sourceOf cX0_sourceOf 2 (some .int), Cond.static yX5_junctionOf, Cond.code yX5_junctionOf cX5_junctionOf 1 (some .int), Cond.static yX5_distanceBetween, Cond.code yX5_distanceBetween cX5_distanceBetween 2 (some .int), Cond.methodLink RX5 220 Lib.Math.abs.name, Cond.static Lib.Math.abs.name, Cond.initialized "java/lang/Math", Cond.code Lib.Math.abs.name Lib.Math.abs.code 1 (some .int), Cond.methodLink RX2 24 yX2_layWire, Cond.instanceMethod yX2_layWire, Cond.selects RX2 yX2_layWire yX2_layWire, Cond.code yX2_layWire cX2_layWire 7 (some .boolean), Cond.fieldLink RX2 9 "LookupBoard$Layer" "costs" "[I"]
def wsX5_load_r6 : List Cond := [Cond.constant RX2 46 (1000000), Cond.methodLink RX2 32 yX0_sourceOf, Cond.methodLink RX2 42 yX2_measureCosts, Cond.instanceMethod yX2_measureCosts, Cond.selects RX2 yX2_measureCosts yX2_measureCosts, Cond.code yX2_measureCosts cX2_measureCosts 8 none, Cond.methodLink RX2 58 yJ7_fill_53178, Cond.methodLink RX2 64 yX2_costOver, Cond.instanceMethod yX2_costOver, Cond.selects RX2 yX2_costOver yX2_costOver, Cond.code yX2_costOver cX2_costOver 6 (some .int), Cond.static yX5_segmentAt, Cond.code yX5_segmentAt cX5_segmentAt 4 (some .int), Cond.methodLink RX2 75 yX0_priceOf, Cond.instanceMethod yX0_priceOf, Cond.selects RX0 yX0_priceOf yX0_priceOf, Cond.code yX0_priceOf cX0_priceOf 2 (some .int), Cond.constant RX0 99 (1000000), Cond.methodLink RX2 47 yX0_startWire, Cond.instanceMethod yX0_startWire, Cond.selects RX0 yX0_startWire yX0_startWire, Cond.code yX0_startWire cX0_startWire 3 none, Cond.methodLink RX2 51 yX2_nextJunction, Cond.instanceMethod yX2_nextJunction]
def wsX5_load_r7 : List Cond := [Cond.selects RX2 yX2_nextJunction yX2_nextJunction, Cond.code yX2_nextJunction cX2_nextJunction 4 (some .int), Cond.methodLink RX2 55 yX0_extendWire, Cond.instanceMethod yX0_extendWire, Cond.selects RX0 yX0_extendWire yX0_extendWire, Cond.code yX0_extendWire cX0_extendWire 4 none, Cond.static yX5_segmentBetween, Cond.code yX5_segmentBetween cX5_segmentBetween 3 (some .int), Cond.fieldLink RX5 213 "LookupBoard" "STEPS" "[I", Cond.methodLink RX5 54 yX5_isPlace, Cond.methodLink RX5 217 yX5_segmentAt, Cond.methodLink RX2 28 yX0_segmentsOfAll, Cond.instanceMethod yX0_segmentsOfAll, Cond.selects RX0 yX0_segmentsOfAll yX0_segmentsOfAll, Cond.code yX0_segmentsOfAll cX0_segmentsOfAll 3 (some .int), Cond.methodLink RX5 109 yX5_acceptTrial, Cond.instanceMethod yX5_acceptTrial, Cond.selects RX5 yX5_acceptTrial yX5_acceptTrial, Cond.code yX5_acceptTrial cX5_acceptTrial 1 none, Cond.fieldLink RX5 25 "LookupBoard" "history" "LLookupBoard$History;", Cond.methodLink RX5 64 yX1_remember, Cond.instanceMethod yX1_remember, Cond.selects RX1 yX1_remember yX1_remember, Cond.initialized RX1]
def wsX5_load_r8 : List Cond := [Cond.code yX1_remember cX1_remember 3 none, Cond.fieldLink RX1 17 "LookupBoard$History" "size" "I", Cond.methodLink RX1 22 yX1_dropOldest, Cond.instanceMethod yX1_dropOldest, Cond.selects RX1 yX1_dropOldest yX1_dropOldest, Cond.code yX1_dropOldest cX1_dropOldest 3 none, Cond.fieldLink RX1 11 "LookupBoard$History" "states" "[LLookupBoard$Board;", Cond.methodLink RX1 25 yX1_stateAt, Cond.instanceMethod yX1_stateAt, Cond.selects RX1 yX1_stateAt yX1_stateAt, Cond.code yX1_stateAt cX1_stateAt 2 (some (.object "LookupBoard$Board")), Cond.methodLink RX1 29 yX0_copyFrom, Cond.methodLink RX5 72 yX0_cells, Cond.instanceMethod yX0_cells, Cond.selects RX0 yX0_cells yX0_cells, Cond.code yX0_cells cX0_cells 3 (some .int)]
def wsX5_load : List Cond := .code yX5_load cX5_load 2 (some .int) :: ((wsX5_load_r1 ++ (wsX5_load_r2 ++ (wsX5_load_r3 ++ (wsX5_load_r4 ++ (wsX5_load_r5 ++ (wsX5_load_r6 ++ (wsX5_load_r7 ++ wsX5_load_r8))))))) ++ wsX50 ++ wsX00 ++ wsX40 ++ wsX20 ++ wsX10)
def wsX5_type : List Cond := .code yX5_type cX5_type 2 (some .int) :: ([.fieldLink RX5 46 "LookupBoard" "text" "LLookupBoard$PlanText;", .methodLink RX5 146 yX4_append, .instanceMethod yX4_append, .selects RX4 yX4_append yX4_append, .initialized RX4, .code yX4_append cX4_append 2 (some .boolean), .fieldLink RX4 15 "LookupBoard$PlanText" "length" "I", .fieldLink RX4 9 "LookupBoard$PlanText" "signs" "[C", .methodLink RX5 150 yX4_length, .instanceMethod yX4_length, .selects RX4 yX4_length yX4_length, .code yX4_length cX4_length 1 (some .int)] ++ wsX50 ++ wsX40)
def wsX5_clearText : List Cond := .code yX5_clearText cX5_clearText 2 (some .int) :: ([.fieldLink RX5 46 "LookupBoard" "text" "LLookupBoard$PlanText;", .methodLink RX5 150 yX4_length, .instanceMethod yX4_length, .selects RX4 yX4_length yX4_length, .initialized RX4, .code yX4_length cX4_length 1 (some .int), .fieldLink RX4 15 "LookupBoard$PlanText" "length" "I", .methodLink RX5 153 yX4_empty, .instanceMethod yX4_empty, .selects RX4 yX4_empty yX4_empty, .code yX4_empty cX4_empty 1 none] ++ wsX50 ++ wsX40)
def wsX5_undo_r1 : List Cond := [Cond.fieldLink RX5 25 "LookupBoard" "history" "LLookupBoard$History;", Cond.fieldLink RX5 10 "LookupBoard" "board" "LLookupBoard$Board;", Cond.methodLink RX5 156 yX1_bringBack, Cond.instanceMethod yX1_bringBack, Cond.selects RX1 yX1_bringBack yX1_bringBack, Cond.initialized RX1, Cond.code yX1_bringBack cX1_bringBack 3 (some .boolean), Cond.fieldLink RX1 17 "LookupBoard$History" "size" "I", Cond.methodLink RX1 25 yX1_stateAt, Cond.instanceMethod yX1_stateAt, Cond.selects RX1 yX1_stateAt yX1_stateAt, Cond.code yX1_stateAt cX1_stateAt 2 (some (.object "LookupBoard$Board")), Cond.fieldLink RX1 11 "LookupBoard$History" "states" "[LLookupBoard$Board;", Cond.methodLink RX1 29 yX0_copyFrom, Cond.instanceMethod yX0_copyFrom, Cond.selects RX0 yX0_copyFrom yX0_copyFrom, Cond.initialized RX0, Cond.code yX0_copyFrom cX0_copyFrom 2 none, Cond.fieldLink RX0 9 "LookupBoard$Board" "tables" "[I", Cond.methodLink RX0 40 arraycopyName, Cond.native arraycopyName, Cond.static arraycopyName, Cond.initialized "java/lang/System", Cond.fieldLink RX0 15 "LookupBoard$Board" "sources" "[I"]
def wsX5_undo_r2 : List Cond := [Cond.fieldLink RX0 18 "LookupBoard$Board" "lengths" "[I", Cond.fieldLink RX0 21 "LookupBoard$Board" "junctions" "[I", Cond.fieldLink RX0 24 "LookupBoard$Board" "wiresHeld" "[I", Cond.fieldLink RX0 27 "LookupBoard$Board" "capacity" "I", Cond.fieldLink RX0 31 "LookupBoard$Board" "surcharge" "I", Cond.methodLink RX5 160 yX1_size, Cond.instanceMethod yX1_size, Cond.selects RX1 yX1_size yX1_size, Cond.code yX1_size cX1_size 1 (some .int)]
def wsX5_undo : List Cond := .code yX5_undo cX5_undo 1 (some .int) :: ((wsX5_undo_r1 ++ wsX5_undo_r2) ++ wsX50 ++ wsX10 ++ wsX00)
def wsX5_keep_r1 : List Cond := [Cond.fieldLink RX5 19 "LookupBoard" "snapshot" "LLookupBoard$Board;", Cond.fieldLink RX5 10 "LookupBoard" "board" "LLookupBoard$Board;", Cond.fieldLink RX5 50 "LookupBoard" "hasSnapshot" "Z", Cond.methodLink RX5 96 yX0_copyFrom, Cond.instanceMethod yX0_copyFrom, Cond.selects RX0 yX0_copyFrom yX0_copyFrom, Cond.initialized RX0, Cond.code yX0_copyFrom cX0_copyFrom 2 none, Cond.fieldLink RX0 9 "LookupBoard$Board" "tables" "[I", Cond.methodLink RX0 40 arraycopyName, Cond.native arraycopyName, Cond.static arraycopyName, Cond.initialized "java/lang/System", Cond.fieldLink RX0 15 "LookupBoard$Board" "sources" "[I", Cond.fieldLink RX0 18 "LookupBoard$Board" "lengths" "[I", Cond.fieldLink RX0 21 "LookupBoard$Board" "junctions" "[I", Cond.fieldLink RX0 24 "LookupBoard$Board" "wiresHeld" "[I", Cond.fieldLink RX0 27 "LookupBoard$Board" "capacity" "I", Cond.fieldLink RX0 31 "LookupBoard$Board" "surcharge" "I", Cond.methodLink RX5 72 yX0_cells, Cond.instanceMethod yX0_cells, Cond.selects RX0 yX0_cells yX0_cells, Cond.code yX0_cells cX0_cells 3 (some .int), Cond.methodLink RX0 53 yX0_hasCell]
def wsX5_keep_r2 : List Cond := [Cond.instanceMethod yX0_hasCell, Cond.selects RX0 yX0_hasCell yX0_hasCell, Cond.code yX0_hasCell cX0_hasCell 2 (some .boolean), Cond.static yX5_isPlace, Cond.initialized RX5, Cond.code yX5_isPlace cX5_isPlace 1 (some .boolean)]
def wsX5_keep : List Cond := .code yX5_keep cX5_keep 1 (some .int) :: ((wsX5_keep_r1 ++ wsX5_keep_r2) ++ wsX50 ++ wsX00)
def wsX5_restore_r1 : List Cond := [Cond.fieldLink RX5 50 "LookupBoard" "hasSnapshot" "Z", Cond.fieldLink RX5 25 "LookupBoard" "history" "LLookupBoard$History;", Cond.fieldLink RX5 10 "LookupBoard" "board" "LLookupBoard$Board;", Cond.fieldLink RX5 19 "LookupBoard" "snapshot" "LLookupBoard$Board;", Cond.methodLink RX5 64 yX1_remember, Cond.instanceMethod yX1_remember, Cond.selects RX1 yX1_remember yX1_remember, Cond.initialized RX1, Cond.code yX1_remember cX1_remember 3 none, Cond.fieldLink RX1 17 "LookupBoard$History" "size" "I", Cond.methodLink RX1 22 yX1_dropOldest, Cond.instanceMethod yX1_dropOldest, Cond.selects RX1 yX1_dropOldest yX1_dropOldest, Cond.code yX1_dropOldest cX1_dropOldest 3 none, Cond.fieldLink RX1 11 "LookupBoard$History" "states" "[LLookupBoard$Board;", Cond.methodLink RX1 25 yX1_stateAt, Cond.instanceMethod yX1_stateAt, Cond.selects RX1 yX1_stateAt yX1_stateAt, Cond.code yX1_stateAt cX1_stateAt 2 (some (.object "LookupBoard$Board")), Cond.methodLink RX1 29 yX0_copyFrom, Cond.instanceMethod yX0_copyFrom, Cond.selects RX0 yX0_copyFrom yX0_copyFrom, Cond.initialized RX0, Cond.code yX0_copyFrom cX0_copyFrom 2 none]
def wsX5_restore_r2 : List Cond := [Cond.fieldLink RX0 9 "LookupBoard$Board" "tables" "[I", Cond.methodLink RX0 40 arraycopyName, Cond.native arraycopyName, Cond.static arraycopyName, Cond.initialized "java/lang/System", Cond.fieldLink RX0 15 "LookupBoard$Board" "sources" "[I", Cond.fieldLink RX0 18 "LookupBoard$Board" "lengths" "[I", Cond.fieldLink RX0 21 "LookupBoard$Board" "junctions" "[I", Cond.fieldLink RX0 24 "LookupBoard$Board" "wiresHeld" "[I", Cond.fieldLink RX0 27 "LookupBoard$Board" "capacity" "I", Cond.fieldLink RX0 31 "LookupBoard$Board" "surcharge" "I", Cond.methodLink RX5 96 yX0_copyFrom, Cond.methodLink RX5 72 yX0_cells, Cond.instanceMethod yX0_cells, Cond.selects RX0 yX0_cells yX0_cells, Cond.code yX0_cells cX0_cells 3 (some .int), Cond.methodLink RX0 53 yX0_hasCell, Cond.instanceMethod yX0_hasCell, Cond.selects RX0 yX0_hasCell yX0_hasCell, Cond.code yX0_hasCell cX0_hasCell 2 (some .boolean), Cond.static yX5_isPlace, Cond.initialized RX5, Cond.code yX5_isPlace cX5_isPlace 1 (some .boolean)]
def wsX5_restore : List Cond := .code yX5_restore cX5_restore 1 (some .int) :: ((wsX5_restore_r1 ++ wsX5_restore_r2) ++ wsX50 ++ wsX10 ++ wsX00)
def wsX5_cell_r1 : List Cond := [Cond.fieldLink RX5 10 "LookupBoard" "board" "LLookupBoard$Board;", Cond.fieldLink RX5 39 "LookupBoard" "logic" "LLookupBoard$Logic;", Cond.methodLink RX5 61 yX0_hasCell, Cond.instanceMethod yX0_hasCell, Cond.selects RX0 yX0_hasCell yX0_hasCell, Cond.initialized RX0, Cond.code yX0_hasCell cX0_hasCell 2 (some .boolean), Cond.fieldLink RX0 9 "LookupBoard$Board" "tables" "[I", Cond.static yX5_isPlace, Cond.initialized RX5, Cond.code yX5_isPlace cX5_isPlace 1 (some .boolean), Cond.methodLink RX5 84 yX0_tableOf, Cond.instanceMethod yX0_tableOf, Cond.selects RX0 yX0_tableOf yX0_tableOf, Cond.code yX0_tableOf cX0_tableOf 2 (some .int), Cond.methodLink RX5 93 yX0_sourceOf, Cond.instanceMethod yX0_sourceOf, Cond.selects RX0 yX0_sourceOf yX0_sourceOf, Cond.code yX0_sourceOf cX0_sourceOf 2 (some .int), Cond.fieldLink RX0 15 "LookupBoard$Board" "sources" "[I", Cond.static yX5_isWire, Cond.code yX5_isWire cX5_isWire 1 (some .boolean), Cond.methodLink RX5 163 yX3_study, Cond.instanceMethod yX3_study]
def wsX5_cell_r2 : List Cond := [Cond.selects RX3 yX3_study yX3_study, Cond.initialized RX3, Cond.code yX3_study cX3_study 4 none, Cond.fieldLink RX3 9 "LookupBoard$Logic" "depths" "[I", Cond.fieldLink RX3 21 "LookupBoard$Logic" "settled" "I", Cond.methodLink RX3 25 yJ7_fill_53178, Cond.static yJ7_fill_53178, Cond.initialized RJ7, Cond.code yJ7_fill_53178 cJ7_fill_53178 4 none, Cond.methodLink RX3 31 yX3_settleSome, Cond.instanceMethod yX3_settleSome, Cond.selects RX3 yX3_settleSome yX3_settleSome, Cond.code yX3_settleSome cX3_settleSome 5 (some .boolean), Cond.fieldLink RX3 18 "LookupBoard$Logic" "sequence" "[I", Cond.methodLink RX3 35 yX0_hasCell, Cond.methodLink RX3 41 yX3_depthBySources, Cond.instanceMethod yX3_depthBySources, Cond.selects RX3 yX3_depthBySources yX3_depthBySources, Cond.code yX3_depthBySources cX3_depthBySources 6 (some .int), Cond.methodLink RX3 52 Lib.Math.max.name, Cond.static Lib.Math.max.name, Cond.initialized "java/lang/Math", Cond.code Lib.Math.max.name Lib.Math.max.code 2 (some .int), Cond.methodLink RX3 45 yX0_sourceOf]
def wsX5_cell_r3 : List Cond := [Cond.methodLink RX5 166 yX3_answers, Cond.instanceMethod yX3_answers, Cond.selects RX3 yX3_answers yX3_answers, Cond.code yX3_answers cX3_answers 2 (some .boolean), Cond.methodLink RX3 64 yX3_depthOf, Cond.instanceMethod yX3_depthOf, Cond.selects RX3 yX3_depthOf yX3_depthOf, Cond.code yX3_depthOf cX3_depthOf 2 (some .int), Cond.methodLink RX5 169 yX3_depthOf, Cond.methodLink RX5 172 yX0_uses, Cond.instanceMethod yX0_uses, Cond.selects RX0 yX0_uses yX0_uses, Cond.code yX0_uses cX0_uses 4 (some .int), Cond.methodLink RX5 175 yX0_segmentsOfCell, Cond.instanceMethod yX0_segmentsOfCell, Cond.selects RX0 yX0_segmentsOfCell yX0_segmentsOfCell, Cond.code yX0_segmentsOfCell cX0_segmentsOfCell 4 (some .int), Cond.methodLink RX0 86 yX0_lengthOf, Cond.instanceMethod yX0_lengthOf, Cond.selects RX0 yX0_lengthOf yX0_lengthOf, Cond.code yX0_lengthOf cX0_lengthOf 2 (some .int), Cond.fieldLink RX0 18 "LookupBoard$Board" "lengths" "[I"]
def wsX5_cell : List Cond := .code yX5_cell cX5_cell 3 (some .int) :: ((wsX5_cell_r1 ++ (wsX5_cell_r2 ++ wsX5_cell_r3)) ++ wsX50 ++ wsX00 ++ wsX30)
def wsX5_path_r1 : List Cond := [Cond.fieldLink RX5 10 "LookupBoard" "board" "LLookupBoard$Board;", Cond.methodLink RX5 61 yX0_hasCell, Cond.instanceMethod yX0_hasCell, Cond.selects RX0 yX0_hasCell yX0_hasCell, Cond.initialized RX0, Cond.code yX0_hasCell cX0_hasCell 2 (some .boolean), Cond.fieldLink RX0 9 "LookupBoard$Board" "tables" "[I", Cond.static yX5_isPlace, Cond.initialized RX5, Cond.code yX5_isPlace cX5_isPlace 1 (some .boolean), Cond.methodLink RX5 87 yX5_isInput, Cond.static yX5_isInput, Cond.code yX5_isInput cX5_isInput 1 (some .boolean), Cond.methodLink RX5 178 yX0_junctionAt, Cond.instanceMethod yX0_junctionAt, Cond.selects RX0 yX0_junctionAt yX0_junctionAt, Cond.code yX0_junctionAt cX0_junctionAt 5 (some .int), Cond.fieldLink RX0 21 "LookupBoard$Board" "junctions" "[I", Cond.methodLink RX0 77 yX0_sourceOf, Cond.instanceMethod yX0_sourceOf, Cond.selects RX0 yX0_sourceOf yX0_sourceOf, Cond.code yX0_sourceOf cX0_sourceOf 2 (some .int), Cond.fieldLink RX0 15 "LookupBoard$Board" "sources" "[I", Cond.static yX5_isWire]
def wsX5_path_r2 : List Cond := [Cond.code yX5_isWire cX5_isWire 1 (some .boolean), Cond.static yX5_junctionOf, Cond.code yX5_junctionOf cX5_junctionOf 1 (some .int), Cond.methodLink RX0 86 yX0_lengthOf, Cond.instanceMethod yX0_lengthOf, Cond.selects RX0 yX0_lengthOf yX0_lengthOf, Cond.code yX0_lengthOf cX0_lengthOf 2 (some .int), Cond.fieldLink RX0 18 "LookupBoard$Board" "lengths" "[I"]
def wsX5_path : List Cond := .code yX5_path cX5_path 5 (some .int) :: ((wsX5_path_r1 ++ wsX5_path_r2) ++ wsX50 ++ wsX00)
def wsX5_held : List Cond := .code yX5_held cX5_held 4 (some .int) :: ([.fieldLink RX5 10 "LookupBoard" "board" "LLookupBoard$Board;", .methodLink RX5 181 yX5_segmentBetween, .static yX5_segmentBetween, .initialized RX5, .code yX5_segmentBetween cX5_segmentBetween 3 (some .int), .fieldLink RX5 213 "LookupBoard" "STEPS" "[I", .methodLink RX5 54 yX5_isPlace, .static yX5_isPlace, .code yX5_isPlace cX5_isPlace 1 (some .boolean), .methodLink RX5 217 yX5_segmentAt, .static yX5_segmentAt, .code yX5_segmentAt cX5_segmentAt 4 (some .int), .methodLink RX5 184 yX0_heldBy, .instanceMethod yX0_heldBy, .selects RX0 yX0_heldBy yX0_heldBy, .initialized RX0, .code yX0_heldBy cX0_heldBy 2 (some .int), .fieldLink RX0 24 "LookupBoard$Board" "wiresHeld" "[I"] ++ wsX50 ++ wsX00)
def wsX5_answer_r1 : List Cond := [Cond.fieldLink RX5 10 "LookupBoard" "board" "LLookupBoard$Board;", Cond.fieldLink RX5 39 "LookupBoard" "logic" "LLookupBoard$Logic;", Cond.methodLink RX5 61 yX0_hasCell, Cond.instanceMethod yX0_hasCell, Cond.selects RX0 yX0_hasCell yX0_hasCell, Cond.initialized RX0, Cond.code yX0_hasCell cX0_hasCell 2 (some .boolean), Cond.fieldLink RX0 9 "LookupBoard$Board" "tables" "[I", Cond.static yX5_isPlace, Cond.initialized RX5, Cond.code yX5_isPlace cX5_isPlace 1 (some .boolean), Cond.methodLink RX5 163 yX3_study, Cond.instanceMethod yX3_study, Cond.selects RX3 yX3_study yX3_study, Cond.initialized RX3, Cond.code yX3_study cX3_study 4 none, Cond.fieldLink RX3 9 "LookupBoard$Logic" "depths" "[I", Cond.fieldLink RX3 21 "LookupBoard$Logic" "settled" "I", Cond.methodLink RX3 25 yJ7_fill_53178, Cond.static yJ7_fill_53178, Cond.initialized RJ7, Cond.code yJ7_fill_53178 cJ7_fill_53178 4 none, Cond.methodLink RX3 31 yX3_settleSome, Cond.instanceMethod yX3_settleSome]
def wsX5_answer_r2 : List Cond := [Cond.selects RX3 yX3_settleSome yX3_settleSome, Cond.code yX3_settleSome cX3_settleSome 5 (some .boolean), Cond.fieldLink RX3 18 "LookupBoard$Logic" "sequence" "[I", Cond.methodLink RX3 35 yX0_hasCell, Cond.methodLink RX3 41 yX3_depthBySources, Cond.instanceMethod yX3_depthBySources, Cond.selects RX3 yX3_depthBySources yX3_depthBySources, Cond.code yX3_depthBySources cX3_depthBySources 6 (some .int), Cond.methodLink RX3 52 Lib.Math.max.name, Cond.static Lib.Math.max.name, Cond.initialized "java/lang/Math", Cond.code Lib.Math.max.name Lib.Math.max.code 2 (some .int), Cond.methodLink RX3 45 yX0_sourceOf, Cond.instanceMethod yX0_sourceOf, Cond.selects RX0 yX0_sourceOf yX0_sourceOf, Cond.code yX0_sourceOf cX0_sourceOf 2 (some .int), Cond.fieldLink RX0 15 "LookupBoard$Board" "sources" "[I", Cond.static yX5_isWire, Cond.code yX5_isWire cX5_isWire 1 (some .boolean), Cond.methodLink RX5 166 yX3_answers, Cond.instanceMethod yX3_answers, Cond.selects RX3 yX3_answers yX3_answers, Cond.code yX3_answers cX3_answers 2 (some .boolean), Cond.methodLink RX3 64 yX3_depthOf]
def wsX5_answer_r3 : List Cond := [Cond.instanceMethod yX3_depthOf, Cond.selects RX3 yX3_depthOf yX3_depthOf, Cond.code yX3_depthOf cX3_depthOf 2 (some .int), Cond.methodLink RX5 187 yX3_work, Cond.instanceMethod yX3_work, Cond.selects RX3 yX3_work yX3_work, Cond.code yX3_work cX3_work 7 none, Cond.fieldLink RX3 15 "LookupBoard$Logic" "bits" "[I", Cond.methodLink RX3 58 yX3_sourceBit, Cond.instanceMethod yX3_sourceBit, Cond.selects RX3 yX3_sourceBit yX3_sourceBit, Cond.code yX3_sourceBit cX3_sourceBit 3 (some .int), Cond.methodLink RX3 61 yX0_tableOf, Cond.instanceMethod yX0_tableOf, Cond.selects RX0 yX0_tableOf yX0_tableOf, Cond.code yX0_tableOf cX0_tableOf 2 (some .int), Cond.methodLink RX5 191 yX3_bitOf, Cond.instanceMethod yX3_bitOf, Cond.selects RX3 yX3_bitOf yX3_bitOf, Cond.code yX3_bitOf cX3_bitOf 2 (some .int)]
def wsX5_answer : List Cond := .code yX5_answer cX5_answer 3 (some .int) :: ((wsX5_answer_r1 ++ (wsX5_answer_r2 ++ wsX5_answer_r3)) ++ wsX50 ++ wsX00 ++ wsX30)
def wsX5_ones_r1 : List Cond := [Cond.fieldLink RX5 10 "LookupBoard" "board" "LLookupBoard$Board;", Cond.fieldLink RX5 39 "LookupBoard" "logic" "LLookupBoard$Logic;", Cond.methodLink RX5 61 yX0_hasCell, Cond.instanceMethod yX0_hasCell, Cond.selects RX0 yX0_hasCell yX0_hasCell, Cond.initialized RX0, Cond.code yX0_hasCell cX0_hasCell 2 (some .boolean), Cond.fieldLink RX0 9 "LookupBoard$Board" "tables" "[I", Cond.static yX5_isPlace, Cond.initialized RX5, Cond.code yX5_isPlace cX5_isPlace 1 (some .boolean), Cond.methodLink RX5 163 yX3_study, Cond.instanceMethod yX3_study, Cond.selects RX3 yX3_study yX3_study, Cond.initialized RX3, Cond.code yX3_study cX3_study 4 none, Cond.fieldLink RX3 9 "LookupBoard$Logic" "depths" "[I", Cond.fieldLink RX3 21 "LookupBoard$Logic" "settled" "I", Cond.methodLink RX3 25 yJ7_fill_53178, Cond.static yJ7_fill_53178, Cond.initialized RJ7, Cond.code yJ7_fill_53178 cJ7_fill_53178 4 none, Cond.methodLink RX3 31 yX3_settleSome, Cond.instanceMethod yX3_settleSome]
def wsX5_ones_r2 : List Cond := [Cond.selects RX3 yX3_settleSome yX3_settleSome, Cond.code yX3_settleSome cX3_settleSome 5 (some .boolean), Cond.fieldLink RX3 18 "LookupBoard$Logic" "sequence" "[I", Cond.methodLink RX3 35 yX0_hasCell, Cond.methodLink RX3 41 yX3_depthBySources, Cond.instanceMethod yX3_depthBySources, Cond.selects RX3 yX3_depthBySources yX3_depthBySources, Cond.code yX3_depthBySources cX3_depthBySources 6 (some .int), Cond.methodLink RX3 52 Lib.Math.max.name, Cond.static Lib.Math.max.name, Cond.initialized "java/lang/Math", Cond.code Lib.Math.max.name Lib.Math.max.code 2 (some .int), Cond.methodLink RX3 45 yX0_sourceOf, Cond.instanceMethod yX0_sourceOf, Cond.selects RX0 yX0_sourceOf yX0_sourceOf, Cond.code yX0_sourceOf cX0_sourceOf 2 (some .int), Cond.fieldLink RX0 15 "LookupBoard$Board" "sources" "[I", Cond.static yX5_isWire, Cond.code yX5_isWire cX5_isWire 1 (some .boolean), Cond.methodLink RX5 166 yX3_answers, Cond.instanceMethod yX3_answers, Cond.selects RX3 yX3_answers yX3_answers, Cond.code yX3_answers cX3_answers 2 (some .boolean), Cond.methodLink RX3 64 yX3_depthOf]
def wsX5_ones_r3 : List Cond := [Cond.instanceMethod yX3_depthOf, Cond.selects RX3 yX3_depthOf yX3_depthOf, Cond.code yX3_depthOf cX3_depthOf 2 (some .int), Cond.methodLink RX5 187 yX3_work, Cond.instanceMethod yX3_work, Cond.selects RX3 yX3_work yX3_work, Cond.code yX3_work cX3_work 7 none, Cond.fieldLink RX3 15 "LookupBoard$Logic" "bits" "[I", Cond.methodLink RX3 58 yX3_sourceBit, Cond.instanceMethod yX3_sourceBit, Cond.selects RX3 yX3_sourceBit yX3_sourceBit, Cond.code yX3_sourceBit cX3_sourceBit 3 (some .int), Cond.methodLink RX3 61 yX0_tableOf, Cond.instanceMethod yX0_tableOf, Cond.selects RX0 yX0_tableOf yX0_tableOf, Cond.code yX0_tableOf cX0_tableOf 2 (some .int), Cond.methodLink RX5 191 yX3_bitOf, Cond.instanceMethod yX3_bitOf, Cond.selects RX3 yX3_bitOf yX3_bitOf, Cond.code yX3_bitOf cX3_bitOf 2 (some .int)]
def wsX5_ones : List Cond := .code yX5_ones cX5_ones 4 (some .int) :: ((wsX5_ones_r1 ++ (wsX5_ones_r2 ++ wsX5_ones_r3)) ++ wsX50 ++ wsX00 ++ wsX30)
def wsX5_ifSwap_r1 : List Cond := [Cond.methodLink RX5 115 yX5_trySwap, Cond.instanceMethod yX5_trySwap, Cond.selects RX5 yX5_trySwap yX5_trySwap, Cond.initialized RX5, Cond.code yX5_trySwap cX5_trySwap 3 (some .int), Cond.fieldLink RX5 10 "LookupBoard" "board" "LLookupBoard$Board;", Cond.fieldLink RX5 16 "LookupBoard" "trial" "LLookupBoard$Board;", Cond.fieldLink RX5 32 "LookupBoard" "layer" "LLookupBoard$Layer;", Cond.methodLink RX5 54 yX5_isPlace, Cond.static yX5_isPlace, Cond.code yX5_isPlace cX5_isPlace 1 (some .boolean), Cond.methodLink RX5 61 yX0_hasCell, Cond.instanceMethod yX0_hasCell, Cond.selects RX0 yX0_hasCell yX0_hasCell, Cond.initialized RX0, Cond.code yX0_hasCell cX0_hasCell 2 (some .boolean), Cond.fieldLink RX0 9 "LookupBoard$Board" "tables" "[I", Cond.methodLink RX5 96 yX0_copyFrom, Cond.instanceMethod yX0_copyFrom, Cond.selects RX0 yX0_copyFrom yX0_copyFrom, Cond.code yX0_copyFrom cX0_copyFrom 2 none, Cond.methodLink RX0 40 arraycopyName, Cond.native arraycopyName, Cond.static arraycopyName]
def wsX5_ifSwap_r2 : List Cond := [Cond.initialized "java/lang/System", Cond.fieldLink RX0 15 "LookupBoard$Board" "sources" "[I", Cond.fieldLink RX0 18 "LookupBoard$Board" "lengths" "[I", Cond.fieldLink RX0 21 "LookupBoard$Board" "junctions" "[I", Cond.fieldLink RX0 24 "LookupBoard$Board" "wiresHeld" "[I", Cond.fieldLink RX0 27 "LookupBoard$Board" "capacity" "I", Cond.fieldLink RX0 31 "LookupBoard$Board" "surcharge" "I", Cond.methodLink RX5 210 yX0_exchange, Cond.instanceMethod yX0_exchange, Cond.selects RX0 yX0_exchange yX0_exchange, Cond.code yX0_exchange cX0_exchange 6 none, Cond.methodLink RX0 80 yX0_tableOf, Cond.instanceMethod yX0_tableOf, Cond.selects RX0 yX0_tableOf yX0_tableOf, Cond.code yX0_tableOf cX0_tableOf 2 (some .int), Cond.methodLink RX0 67 yX0_changeTable, Cond.instanceMethod yX0_changeTable, Cond.selects RX0 yX0_changeTable yX0_changeTable, Cond.code yX0_changeTable cX0_changeTable 3 none, Cond.methodLink RX0 77 yX0_sourceOf, Cond.instanceMethod yX0_sourceOf, Cond.selects RX0 yX0_sourceOf yX0_sourceOf, Cond.code yX0_sourceOf cX0_sourceOf 2 (some .int), Cond.static yX5_isWire]
def wsX5_ifSwap_r3 : List Cond := [Cond.code yX5_isWire cX5_isWire 1 (some .boolean), Cond.methodLink RX0 63 yX0_changeSource, Cond.instanceMethod yX0_changeSource, Cond.selects RX0 yX0_changeSource yX0_changeSource, Cond.code yX0_changeSource cX0_changeSource 3 none, Cond.methodLink RX5 142 yX2_layAll, Cond.instanceMethod yX2_layAll, Cond.selects RX2 yX2_layAll yX2_layAll, Cond.initialized RX2, Cond.code yX2_layAll cX2_layAll 7 (some .int), Cond.methodLink RX2 15 yX0_removeAllWires, Cond.instanceMethod yX0_removeAllWires, Cond.selects RX0 yX0_removeAllWires yX0_removeAllWires, Cond.code yX0_removeAllWires cX0_removeAllWires 1 none, Cond.methodLink RX0 34 yJ7_fill_53178, Cond.static yJ7_fill_53178, Cond.initialized RJ7, Cond.code yJ7_fill_53178 cJ7_fill_53178 4 none, Cond.methodLink RX2 20 yX0_distanceOf, Cond.instanceMethod yX0_distanceOf, Cond.selects RX0 yX0_distanceOf yX0_distanceOf, Cond.code yX0_distanceOf cX0_distanceOf 3 (some .int), Cond.static yX5_junctionOf, Cond.code yX5_junctionOf cX5_junctionOf 1 (some .int)]
def wsX5_ifSwap_r4 : List Cond := [Cond.static yX5_distanceBetween, Cond.code yX5_distanceBetween cX5_distanceBetween 2 (some .int), Cond.methodLink RX5 220 Lib.Math.abs.name, Cond.static Lib.Math.abs.name, Cond.initialized "java/lang/Math", Cond.code Lib.Math.abs.name Lib.Math.abs.code 1 (some .int), Cond.methodLink RX2 24 yX2_layWire, Cond.instanceMethod yX2_layWire, Cond.selects RX2 yX2_layWire yX2_layWire, Cond.code yX2_layWire cX2_layWire 7 (some .boolean), Cond.fieldLink RX2 9 "LookupBoard$Layer" "costs" "[I", Cond.constant RX2 46 (1000000), Cond.methodLink RX2 32 yX0_sourceOf, Cond.methodLink RX2 42 yX2_measureCosts, Cond.instanceMethod yX2_measureCosts, Cond.selects RX2 yX2_measureCosts yX2_measureCosts, Cond.code yX2_measureCosts cX2_measureCosts 8 none, Cond.methodLink RX2 58 yJ7_fill_53178, Cond.methodLink RX2 64 yX2_costOver, Cond.instanceMethod yX2_costOver, Cond.selects RX2 yX2_costOver yX2_costOver, Cond.code yX2_costOver cX2_costOver 6 (some .int), Cond.static yX5_segmentAt, Cond.code yX5_segmentAt cX5_segmentAt 4 (some .int)]
def wsX5_ifSwap_r5 : List Cond := [Cond.methodLink RX2 75 yX0_priceOf, Cond.instanceMethod yX0_priceOf, Cond.selects RX0 yX0_priceOf yX0_priceOf, Cond.code yX0_priceOf cX0_priceOf 2 (some .int), Cond.constant RX0 99 (1000000), Cond.methodLink RX2 47 yX0_startWire, Cond.instanceMethod yX0_startWire, Cond.selects RX0 yX0_startWire yX0_startWire, Cond.code yX0_startWire cX0_startWire 3 none, Cond.methodLink RX2 51 yX2_nextJunction, Cond.instanceMethod yX2_nextJunction, Cond.selects RX2 yX2_nextJunction yX2_nextJunction, Cond.code yX2_nextJunction cX2_nextJunction 4 (some .int), Cond.methodLink RX2 55 yX0_extendWire, Cond.instanceMethod yX0_extendWire, Cond.selects RX0 yX0_extendWire yX0_extendWire, Cond.code yX0_extendWire cX0_extendWire 4 none, Cond.static yX5_segmentBetween, Cond.code yX5_segmentBetween cX5_segmentBetween 3 (some .int), Cond.fieldLink RX5 213 "LookupBoard" "STEPS" "[I", Cond.methodLink RX5 217 yX5_segmentAt, Cond.methodLink RX2 28 yX0_segmentsOfAll, Cond.instanceMethod yX0_segmentsOfAll, Cond.selects RX0 yX0_segmentsOfAll yX0_segmentsOfAll]
def wsX5_ifSwap_r6 : List Cond := [Cond.code yX0_segmentsOfAll cX0_segmentsOfAll 3 (some .int)]
def wsX5_ifSwap : List Cond := .code yX5_ifSwap cX5_ifSwap 3 (some .int) :: ((wsX5_ifSwap_r1 ++ (wsX5_ifSwap_r2 ++ (wsX5_ifSwap_r3 ++ (wsX5_ifSwap_r4 ++ (wsX5_ifSwap_r5 ++ wsX5_ifSwap_r6))))) ++ wsX50 ++ wsX00 ++ wsX20)
def wsX5_bestSwap_r1 : List Cond := [Cond.fieldLink RX5 10 "LookupBoard" "board" "LLookupBoard$Board;", Cond.methodLink RX5 61 yX0_hasCell, Cond.instanceMethod yX0_hasCell, Cond.selects RX0 yX0_hasCell yX0_hasCell, Cond.initialized RX0, Cond.code yX0_hasCell cX0_hasCell 2 (some .boolean), Cond.fieldLink RX0 9 "LookupBoard$Board" "tables" "[I", Cond.static yX5_isPlace, Cond.initialized RX5, Cond.code yX5_isPlace cX5_isPlace 1 (some .boolean), Cond.methodLink RX5 194 yX0_segmentsOfAll, Cond.instanceMethod yX0_segmentsOfAll, Cond.selects RX0 yX0_segmentsOfAll yX0_segmentsOfAll, Cond.code yX0_segmentsOfAll cX0_segmentsOfAll 3 (some .int), Cond.fieldLink RX0 18 "LookupBoard$Board" "lengths" "[I", Cond.methodLink RX5 115 yX5_trySwap, Cond.instanceMethod yX5_trySwap, Cond.selects RX5 yX5_trySwap yX5_trySwap, Cond.code yX5_trySwap cX5_trySwap 3 (some .int), Cond.fieldLink RX5 16 "LookupBoard" "trial" "LLookupBoard$Board;", Cond.fieldLink RX5 32 "LookupBoard" "layer" "LLookupBoard$Layer;", Cond.methodLink RX5 54 yX5_isPlace, Cond.methodLink RX5 96 yX0_copyFrom, Cond.instanceMethod yX0_copyFrom]
def wsX5_bestSwap_r2 : List Cond := [Cond.selects RX0 yX0_copyFrom yX0_copyFrom, Cond.code yX0_copyFrom cX0_copyFrom 2 none, Cond.methodLink RX0 40 arraycopyName, Cond.native arraycopyName, Cond.static arraycopyName, Cond.initialized "java/lang/System", Cond.fieldLink RX0 15 "LookupBoard$Board" "sources" "[I", Cond.fieldLink RX0 21 "LookupBoard$Board" "junctions" "[I", Cond.fieldLink RX0 24 "LookupBoard$Board" "wiresHeld" "[I", Cond.fieldLink RX0 27 "LookupBoard$Board" "capacity" "I", Cond.fieldLink RX0 31 "LookupBoard$Board" "surcharge" "I", Cond.methodLink RX5 210 yX0_exchange, Cond.instanceMethod yX0_exchange, Cond.selects RX0 yX0_exchange yX0_exchange, Cond.code yX0_exchange cX0_exchange 6 none, Cond.methodLink RX0 80 yX0_tableOf, Cond.instanceMethod yX0_tableOf, Cond.selects RX0 yX0_tableOf yX0_tableOf, Cond.code yX0_tableOf cX0_tableOf 2 (some .int), Cond.methodLink RX0 67 yX0_changeTable, Cond.instanceMethod yX0_changeTable, Cond.selects RX0 yX0_changeTable yX0_changeTable, Cond.code yX0_changeTable cX0_changeTable 3 none, Cond.methodLink RX0 77 yX0_sourceOf]
def wsX5_bestSwap_r3 : List Cond := [Cond.instanceMethod yX0_sourceOf, Cond.selects RX0 yX0_sourceOf yX0_sourceOf, Cond.code yX0_sourceOf cX0_sourceOf 2 (some .int), Cond.static yX5_isWire, Cond.code yX5_isWire cX5_isWire 1 (some .boolean), Cond.methodLink RX0 63 yX0_changeSource, Cond.instanceMethod yX0_changeSource, Cond.selects RX0 yX0_changeSource yX0_changeSource, Cond.code yX0_changeSource cX0_changeSource 3 none, Cond.methodLink RX5 142 yX2_layAll, Cond.instanceMethod yX2_layAll, Cond.selects RX2 yX2_layAll yX2_layAll, Cond.initialized RX2, Cond.code yX2_layAll cX2_layAll 7 (some .int), Cond.methodLink RX2 15 yX0_removeAllWires, Cond.instanceMethod yX0_removeAllWires, Cond.selects RX0 yX0_removeAllWires yX0_removeAllWires, Cond.code yX0_removeAllWires cX0_removeAllWires 1 none, Cond.methodLink RX0 34 yJ7_fill_53178, Cond.static yJ7_fill_53178, Cond.initialized RJ7, Cond.code yJ7_fill_53178 cJ7_fill_53178 4 none, Cond.methodLink RX2 20 yX0_distanceOf, Cond.instanceMethod yX0_distanceOf]
def wsX5_bestSwap_r4 : List Cond := [Cond.selects RX0 yX0_distanceOf yX0_distanceOf, Cond.code yX0_distanceOf cX0_distanceOf 3 (some .int), Cond.static yX5_junctionOf, Cond.code yX5_junctionOf cX5_junctionOf 1 (some .int), Cond.static yX5_distanceBetween, Cond.code yX5_distanceBetween cX5_distanceBetween 2 (some .int), Cond.methodLink RX5 220 Lib.Math.abs.name, Cond.static Lib.Math.abs.name, Cond.initialized "java/lang/Math", Cond.code Lib.Math.abs.name Lib.Math.abs.code 1 (some .int), Cond.methodLink RX2 24 yX2_layWire, Cond.instanceMethod yX2_layWire, Cond.selects RX2 yX2_layWire yX2_layWire, Cond.code yX2_layWire cX2_layWire 7 (some .boolean), Cond.fieldLink RX2 9 "LookupBoard$Layer" "costs" "[I", Cond.constant RX2 46 (1000000), Cond.methodLink RX2 32 yX0_sourceOf, Cond.methodLink RX2 42 yX2_measureCosts, Cond.instanceMethod yX2_measureCosts, Cond.selects RX2 yX2_measureCosts yX2_measureCosts, Cond.code yX2_measureCosts cX2_measureCosts 8 none, Cond.methodLink RX2 58 yJ7_fill_53178, Cond.methodLink RX2 64 yX2_costOver, Cond.instanceMethod yX2_costOver]
def wsX5_bestSwap_r5 : List Cond := [Cond.selects RX2 yX2_costOver yX2_costOver, Cond.code yX2_costOver cX2_costOver 6 (some .int), Cond.static yX5_segmentAt, Cond.code yX5_segmentAt cX5_segmentAt 4 (some .int), Cond.methodLink RX2 75 yX0_priceOf, Cond.instanceMethod yX0_priceOf, Cond.selects RX0 yX0_priceOf yX0_priceOf, Cond.code yX0_priceOf cX0_priceOf 2 (some .int), Cond.constant RX0 99 (1000000), Cond.methodLink RX2 47 yX0_startWire, Cond.instanceMethod yX0_startWire, Cond.selects RX0 yX0_startWire yX0_startWire, Cond.code yX0_startWire cX0_startWire 3 none, Cond.methodLink RX2 51 yX2_nextJunction, Cond.instanceMethod yX2_nextJunction, Cond.selects RX2 yX2_nextJunction yX2_nextJunction, Cond.code yX2_nextJunction cX2_nextJunction 4 (some .int), Cond.methodLink RX2 55 yX0_extendWire, Cond.instanceMethod yX0_extendWire, Cond.selects RX0 yX0_extendWire yX0_extendWire, Cond.code yX0_extendWire cX0_extendWire 4 none, Cond.static yX5_segmentBetween, Cond.code yX5_segmentBetween cX5_segmentBetween 3 (some .int), Cond.fieldLink RX5 213 "LookupBoard" "STEPS" "[I"]
def wsX5_bestSwap_r6 : List Cond := [Cond.methodLink RX5 217 yX5_segmentAt, Cond.methodLink RX2 28 yX0_segmentsOfAll]
def wsX5_bestSwap : List Cond := .code yX5_bestSwap cX5_bestSwap 6 (some .int) :: ((wsX5_bestSwap_r1 ++ (wsX5_bestSwap_r2 ++ (wsX5_bestSwap_r3 ++ (wsX5_bestSwap_r4 ++ (wsX5_bestSwap_r5 ++ wsX5_bestSwap_r6))))) ++ wsX50 ++ wsX00 ++ wsX20)
def wsX5_bestOrder_r1 : List Cond := [Cond.constant RX5 197 (1000000), Cond.methodLink RX5 119 yX5_tryOrder, Cond.instanceMethod yX5_tryOrder, Cond.selects RX5 yX5_tryOrder yX5_tryOrder, Cond.initialized RX5, Cond.code yX5_tryOrder cX5_tryOrder 2 (some .int), Cond.fieldLink RX5 16 "LookupBoard" "trial" "LLookupBoard$Board;", Cond.fieldLink RX5 10 "LookupBoard" "board" "LLookupBoard$Board;", Cond.fieldLink RX5 32 "LookupBoard" "layer" "LLookupBoard$Layer;", Cond.methodLink RX5 96 yX0_copyFrom, Cond.instanceMethod yX0_copyFrom, Cond.selects RX0 yX0_copyFrom yX0_copyFrom, Cond.initialized RX0, Cond.code yX0_copyFrom cX0_copyFrom 2 none, Cond.fieldLink RX0 9 "LookupBoard$Board" "tables" "[I", Cond.methodLink RX0 40 arraycopyName, Cond.native arraycopyName, Cond.static arraycopyName, Cond.initialized "java/lang/System", Cond.fieldLink RX0 15 "LookupBoard$Board" "sources" "[I", Cond.fieldLink RX0 18 "LookupBoard$Board" "lengths" "[I", Cond.fieldLink RX0 21 "LookupBoard$Board" "junctions" "[I", Cond.fieldLink RX0 24 "LookupBoard$Board" "wiresHeld" "[I", Cond.fieldLink RX0 27 "LookupBoard$Board" "capacity" "I"]
def wsX5_bestOrder_r2 : List Cond := [Cond.fieldLink RX0 31 "LookupBoard$Board" "surcharge" "I", Cond.methodLink RX5 142 yX2_layAll, Cond.instanceMethod yX2_layAll, Cond.selects RX2 yX2_layAll yX2_layAll, Cond.initialized RX2, Cond.code yX2_layAll cX2_layAll 7 (some .int), Cond.methodLink RX2 15 yX0_removeAllWires, Cond.instanceMethod yX0_removeAllWires, Cond.selects RX0 yX0_removeAllWires yX0_removeAllWires, Cond.code yX0_removeAllWires cX0_removeAllWires 1 none, Cond.methodLink RX0 34 yJ7_fill_53178, Cond.static yJ7_fill_53178, Cond.initialized RJ7, Cond.code yJ7_fill_53178 cJ7_fill_53178 4 none, Cond.methodLink RX2 20 yX0_distanceOf, Cond.instanceMethod yX0_distanceOf, Cond.selects RX0 yX0_distanceOf yX0_distanceOf, Cond.code yX0_distanceOf cX0_distanceOf 3 (some .int), Cond.methodLink RX0 77 yX0_sourceOf, Cond.instanceMethod yX0_sourceOf, Cond.selects RX0 yX0_sourceOf yX0_sourceOf, Cond.code yX0_sourceOf cX0_sourceOf 2 (some .int), Cond.static yX5_isWire, Cond.code yX5_isWire cX5_isWire 1 (some .boolean)]
def wsX5_bestOrder_r3 : List Cond := [Cond.static yX5_junctionOf, Cond.code yX5_junctionOf cX5_junctionOf 1 (some .int), Cond.static yX5_distanceBetween, Cond.code yX5_distanceBetween cX5_distanceBetween 2 (some .int), Cond.methodLink RX5 220 Lib.Math.abs.name, Cond.static Lib.Math.abs.name, Cond.initialized "java/lang/Math", Cond.code Lib.Math.abs.name Lib.Math.abs.code 1 (some .int), Cond.methodLink RX2 24 yX2_layWire, Cond.instanceMethod yX2_layWire, Cond.selects RX2 yX2_layWire yX2_layWire, Cond.code yX2_layWire cX2_layWire 7 (some .boolean), Cond.fieldLink RX2 9 "LookupBoard$Layer" "costs" "[I", Cond.constant RX2 46 (1000000), Cond.methodLink RX2 32 yX0_sourceOf, Cond.static yX5_isPlace, Cond.code yX5_isPlace cX5_isPlace 1 (some .boolean), Cond.methodLink RX2 42 yX2_measureCosts, Cond.instanceMethod yX2_measureCosts, Cond.selects RX2 yX2_measureCosts yX2_measureCosts, Cond.code yX2_measureCosts cX2_measureCosts 8 none, Cond.methodLink RX2 58 yJ7_fill_53178, Cond.methodLink RX2 64 yX2_costOver, Cond.instanceMethod yX2_costOver]
def wsX5_bestOrder_r4 : List Cond := [Cond.selects RX2 yX2_costOver yX2_costOver, Cond.code yX2_costOver cX2_costOver 6 (some .int), Cond.static yX5_segmentAt, Cond.code yX5_segmentAt cX5_segmentAt 4 (some .int), Cond.methodLink RX2 75 yX0_priceOf, Cond.instanceMethod yX0_priceOf, Cond.selects RX0 yX0_priceOf yX0_priceOf, Cond.code yX0_priceOf cX0_priceOf 2 (some .int), Cond.constant RX0 99 (1000000), Cond.methodLink RX2 47 yX0_startWire, Cond.instanceMethod yX0_startWire, Cond.selects RX0 yX0_startWire yX0_startWire, Cond.code yX0_startWire cX0_startWire 3 none, Cond.methodLink RX2 51 yX2_nextJunction, Cond.instanceMethod yX2_nextJunction, Cond.selects RX2 yX2_nextJunction yX2_nextJunction, Cond.code yX2_nextJunction cX2_nextJunction 4 (some .int), Cond.methodLink RX2 55 yX0_extendWire, Cond.instanceMethod yX0_extendWire, Cond.selects RX0 yX0_extendWire yX0_extendWire, Cond.code yX0_extendWire cX0_extendWire 4 none, Cond.static yX5_segmentBetween, Cond.code yX5_segmentBetween cX5_segmentBetween 3 (some .int), Cond.fieldLink RX5 213 "LookupBoard" "STEPS" "[I"]
def wsX5_bestOrder_r5 : List Cond := [Cond.methodLink RX5 54 yX5_isPlace, Cond.methodLink RX5 217 yX5_segmentAt, Cond.methodLink RX2 28 yX0_segmentsOfAll, Cond.instanceMethod yX0_segmentsOfAll, Cond.selects RX0 yX0_segmentsOfAll yX0_segmentsOfAll, Cond.code yX0_segmentsOfAll cX0_segmentsOfAll 3 (some .int)]
def wsX5_bestOrder : List Cond := .code yX5_bestOrder cX5_bestOrder 5 (some .int) :: ((wsX5_bestOrder_r1 ++ (wsX5_bestOrder_r2 ++ (wsX5_bestOrder_r3 ++ (wsX5_bestOrder_r4 ++ wsX5_bestOrder_r5)))) ++ wsX50 ++ wsX00 ++ wsX20)
def wsX5_count_r1 : List Cond := [Cond.fieldLink RX5 10 "LookupBoard" "board" "LLookupBoard$Board;", Cond.fieldLink RX5 39 "LookupBoard" "logic" "LLookupBoard$Logic;", Cond.fieldLink RX5 25 "LookupBoard" "history" "LLookupBoard$History;", Cond.fieldLink RX5 46 "LookupBoard" "text" "LLookupBoard$PlanText;", Cond.methodLink RX5 72 yX0_cells, Cond.instanceMethod yX0_cells, Cond.selects RX0 yX0_cells yX0_cells, Cond.initialized RX0, Cond.code yX0_cells cX0_cells 3 (some .int), Cond.methodLink RX0 53 yX0_hasCell, Cond.instanceMethod yX0_hasCell, Cond.selects RX0 yX0_hasCell yX0_hasCell, Cond.code yX0_hasCell cX0_hasCell 2 (some .boolean), Cond.fieldLink RX0 9 "LookupBoard$Board" "tables" "[I", Cond.static yX5_isPlace, Cond.initialized RX5, Cond.code yX5_isPlace cX5_isPlace 1 (some .boolean), Cond.methodLink RX5 198 yX0_wires, Cond.instanceMethod yX0_wires, Cond.selects RX0 yX0_wires yX0_wires, Cond.code yX0_wires cX0_wires 3 (some .int), Cond.fieldLink RX0 15 "LookupBoard$Board" "sources" "[I", Cond.static yX5_junctionOf, Cond.code yX5_junctionOf cX5_junctionOf 1 (some .int)]
def wsX5_count_r2 : List Cond := [Cond.methodLink RX5 194 yX0_segmentsOfAll, Cond.instanceMethod yX0_segmentsOfAll, Cond.selects RX0 yX0_segmentsOfAll yX0_segmentsOfAll, Cond.code yX0_segmentsOfAll cX0_segmentsOfAll 3 (some .int), Cond.fieldLink RX0 18 "LookupBoard$Board" "lengths" "[I", Cond.methodLink RX5 201 yX0_fullSegments, Cond.instanceMethod yX0_fullSegments, Cond.selects RX0 yX0_fullSegments yX0_fullSegments, Cond.code yX0_fullSegments cX0_fullSegments 3 (some .int), Cond.fieldLink RX0 24 "LookupBoard$Board" "wiresHeld" "[I", Cond.fieldLink RX0 27 "LookupBoard$Board" "capacity" "I", Cond.methodLink RX5 122 yX0_mostHeld, Cond.instanceMethod yX0_mostHeld, Cond.selects RX0 yX0_mostHeld yX0_mostHeld, Cond.code yX0_mostHeld cX0_mostHeld 3 (some .int), Cond.methodLink RX0 100 Lib.Math.max.name, Cond.static Lib.Math.max.name, Cond.initialized "java/lang/Math", Cond.code Lib.Math.max.name Lib.Math.max.code 2 (some .int), Cond.methodLink RX5 163 yX3_study, Cond.instanceMethod yX3_study, Cond.selects RX3 yX3_study yX3_study, Cond.initialized RX3, Cond.code yX3_study cX3_study 4 none]
def wsX5_count_r3 : List Cond := [Cond.fieldLink RX3 9 "LookupBoard$Logic" "depths" "[I", Cond.fieldLink RX3 21 "LookupBoard$Logic" "settled" "I", Cond.methodLink RX3 25 yJ7_fill_53178, Cond.static yJ7_fill_53178, Cond.initialized RJ7, Cond.code yJ7_fill_53178 cJ7_fill_53178 4 none, Cond.methodLink RX3 31 yX3_settleSome, Cond.instanceMethod yX3_settleSome, Cond.selects RX3 yX3_settleSome yX3_settleSome, Cond.code yX3_settleSome cX3_settleSome 5 (some .boolean), Cond.fieldLink RX3 18 "LookupBoard$Logic" "sequence" "[I", Cond.methodLink RX3 35 yX0_hasCell, Cond.methodLink RX3 41 yX3_depthBySources, Cond.instanceMethod yX3_depthBySources, Cond.selects RX3 yX3_depthBySources yX3_depthBySources, Cond.code yX3_depthBySources cX3_depthBySources 6 (some .int), Cond.methodLink RX3 52 Lib.Math.max.name, Cond.methodLink RX3 45 yX0_sourceOf, Cond.instanceMethod yX0_sourceOf, Cond.selects RX0 yX0_sourceOf yX0_sourceOf, Cond.code yX0_sourceOf cX0_sourceOf 2 (some .int), Cond.static yX5_isWire, Cond.code yX5_isWire cX5_isWire 1 (some .boolean), Cond.methodLink RX5 204 yX3_cellsThatAnswer]
def wsX5_count_r4 : List Cond := [Cond.instanceMethod yX3_cellsThatAnswer, Cond.selects RX3 yX3_cellsThatAnswer yX3_cellsThatAnswer, Cond.code yX3_cellsThatAnswer cX3_cellsThatAnswer 1 (some .int), Cond.methodLink RX5 207 yX3_greatestDepth, Cond.instanceMethod yX3_greatestDepth, Cond.selects RX3 yX3_greatestDepth yX3_greatestDepth, Cond.code yX3_greatestDepth cX3_greatestDepth 3 (some .int), Cond.methodLink RX5 125 yX0_setting, Cond.instanceMethod yX0_setting, Cond.selects RX0 yX0_setting yX0_setting, Cond.code yX0_setting cX0_setting 2 (some .int), Cond.fieldLink RX0 31 "LookupBoard$Board" "surcharge" "I", Cond.methodLink RX5 160 yX1_size, Cond.instanceMethod yX1_size, Cond.selects RX1 yX1_size yX1_size, Cond.initialized RX1, Cond.code yX1_size cX1_size 1 (some .int), Cond.fieldLink RX1 17 "LookupBoard$History" "size" "I", Cond.methodLink RX5 150 yX4_length, Cond.instanceMethod yX4_length, Cond.selects RX4 yX4_length yX4_length, Cond.initialized RX4, Cond.code yX4_length cX4_length 1 (some .int), Cond.fieldLink RX4 15 "LookupBoard$PlanText" "length" "I"]
def wsX5_count : List Cond := .code yX5_count cX5_count 2 (some .int) :: ((wsX5_count_r1 ++ (wsX5_count_r2 ++ (wsX5_count_r3 ++ wsX5_count_r4))) ++ wsX50 ++ wsX00 ++ wsX30 ++ wsX10 ++ wsX40)
def wsX6_init : List Cond := .code yX6_init cX6_init 2 none :: ([.methodLink RX6 1 objectInit, .instanceMethod objectInit, .code objectInit ⟨#[0xb1]⟩ 1 none, .arrayClass .int, .fieldLink RX6 7 "LookupBoardModel" "now" "[I", .fieldLink RX6 13 "LookupBoardModel" "then" "[I", .fieldLink RX6 16 "LookupBoardModel" "past" "[I", .fieldLink RX6 19 "LookupBoardModel" "snapshot" "[I", .arrayClass .char, .fieldLink RX6 22 "LookupBoardModel" "text" "[C", .fieldLink RX6 26 "LookupBoardModel" "held" "[I", .fieldLink RX6 29 "LookupBoardModel" "far" "[I", .arrayClass .boolean, .fieldLink RX6 32 "LookupBoardModel" "done" "[Z", .fieldLink RX6 36 "LookupBoardModel" "told" "[I", .fieldLink RX6 39 "LookupBoardModel" "depth" "[I", .fieldLink RX6 42 "LookupBoardModel" "bit" "[I"] ++ wsX60)
def wsX6_in : List Cond := .code yX6_in cX6_in 3 (some .boolean) :: ([])
def wsX6_lays : List Cond := .code yX6_lays cX6_lays 5 none :: ([])
def wsX6_records : List Cond := .code yX6_records cX6_records 2 none :: ([.fieldLink RX6 45 "LookupBoardModel" "states" "I", .fieldLink RX6 16 "LookupBoardModel" "past" "[I", .fieldLink RX6 7 "LookupBoardModel" "now" "[I", .methodLink RX6 49 yX6_lays, .static yX6_lays, .initialized RX6, .code yX6_lays cX6_lays 5 none] ++ wsX60)
def wsX6_isPlace : List Cond := .code yX6_isPlace cX6_isPlace 1 (some .boolean) :: ([.methodLink RX6 53 yX6_in, .static yX6_in, .initialized RX6, .code yX6_in cX6_in 3 (some .boolean)])
def wsX6_isCell : List Cond := .code yX6_isCell cX6_isCell 2 (some .boolean) :: ([.methodLink RX6 57 yX6_isPlace, .static yX6_isPlace, .initialized RX6, .code yX6_isPlace cX6_isPlace 1 (some .boolean), .methodLink RX6 53 yX6_in, .static yX6_in, .code yX6_in cX6_in 3 (some .boolean)])
def wsX6_cells : List Cond := .code yX6_cells cX6_cells 3 (some .int) :: ([.methodLink RX6 61 yX6_isCell, .static yX6_isCell, .initialized RX6, .code yX6_isCell cX6_isCell 2 (some .boolean), .methodLink RX6 57 yX6_isPlace, .static yX6_isPlace, .code yX6_isPlace cX6_isPlace 1 (some .boolean), .methodLink RX6 53 yX6_in, .static yX6_in, .code yX6_in cX6_in 3 (some .boolean)])
def wsX6_junction : List Cond := .code yX6_junction cX6_junction 1 (some .int) :: ([])
def wsX6_isWire : List Cond := .code yX6_isWire cX6_isWire 2 (some .boolean) :: ([.methodLink RX6 61 yX6_isCell, .static yX6_isCell, .initialized RX6, .code yX6_isCell cX6_isCell 2 (some .boolean), .methodLink RX6 57 yX6_isPlace, .static yX6_isPlace, .code yX6_isPlace cX6_isPlace 1 (some .boolean), .methodLink RX6 53 yX6_in, .static yX6_in, .code yX6_in cX6_in 3 (some .boolean)])
def wsX6_areBeside : List Cond := .code yX6_areBeside cX6_areBeside 3 (some .boolean) :: ([])
def wsX6_segment : List Cond := .code yX6_segment cX6_segment 4 (some .int) :: ([])
def wsX6_counts : List Cond := .code yX6_counts cX6_counts 5 none :: ([.fieldLink RX6 26 "LookupBoardModel" "held" "[I", .methodLink RX6 65 yX6_segment, .static yX6_segment, .initialized RX6, .code yX6_segment cX6_segment 4 (some .int)] ++ wsX60)
def wsX6_mostHeld : List Cond := .code yX6_mostHeld cX6_mostHeld 3 (some .int) :: ([.fieldLink RX6 26 "LookupBoardModel" "held" "[I"] ++ wsX60)
def wsX6_cost : List Cond := .code yX6_cost cX6_cost 5 (some .int) :: ([.fieldLink RX6 26 "LookupBoardModel" "held" "[I", .constant RX6 69 (1000000), .methodLink RX6 65 yX6_segment, .static yX6_segment, .initialized RX6, .code yX6_segment cX6_segment 4 (some .int)] ++ wsX60)
def wsX6_beside : List Cond := .code yX6_beside cX6_beside 3 (some .int) :: ([.methodLink RX6 57 yX6_isPlace, .static yX6_isPlace, .initialized RX6, .code yX6_isPlace cX6_isPlace 1 (some .boolean), .methodLink RX6 53 yX6_in, .static yX6_in, .code yX6_in cX6_in 3 (some .boolean), .methodLink RX6 77 yX6_areBeside, .static yX6_areBeside, .code yX6_areBeside cX6_areBeside 3 (some .boolean)])
def wsX6_reaches : List Cond := .code yX6_reaches cX6_reaches 8 none :: ([.fieldLink RX6 29 "LookupBoardModel" "far" "[I", .constant RX6 69 (1000000), .methodLink RX6 70 yX6_beside, .static yX6_beside, .initialized RX6, .code yX6_beside cX6_beside 3 (some .int), .methodLink RX6 57 yX6_isPlace, .static yX6_isPlace, .code yX6_isPlace cX6_isPlace 1 (some .boolean), .methodLink RX6 53 yX6_in, .static yX6_in, .code yX6_in cX6_in 3 (some .boolean), .methodLink RX6 77 yX6_areBeside, .static yX6_areBeside, .code yX6_areBeside cX6_areBeside 3 (some .boolean), .methodLink RX6 73 yX6_cost, .instanceMethod yX6_cost, .selects RX6 yX6_cost yX6_cost, .code yX6_cost cX6_cost 5 (some .int), .fieldLink RX6 26 "LookupBoardModel" "held" "[I", .methodLink RX6 65 yX6_segment, .static yX6_segment, .code yX6_segment cX6_segment 4 (some .int)] ++ wsX60)
def wsX6_nextOn : List Cond := .code yX6_nextOn cX6_nextOn 5 (some .int) :: ([.fieldLink RX6 29 "LookupBoardModel" "far" "[I", .methodLink RX6 70 yX6_beside, .static yX6_beside, .initialized RX6, .code yX6_beside cX6_beside 3 (some .int), .methodLink RX6 57 yX6_isPlace, .static yX6_isPlace, .code yX6_isPlace cX6_isPlace 1 (some .boolean), .methodLink RX6 53 yX6_in, .static yX6_in, .code yX6_in cX6_in 3 (some .boolean), .methodLink RX6 77 yX6_areBeside, .static yX6_areBeside, .code yX6_areBeside cX6_areBeside 3 (some .boolean), .methodLink RX6 73 yX6_cost, .instanceMethod yX6_cost, .selects RX6 yX6_cost yX6_cost, .code yX6_cost cX6_cost 5 (some .int), .fieldLink RX6 26 "LookupBoardModel" "held" "[I", .constant RX6 69 (1000000), .methodLink RX6 65 yX6_segment, .static yX6_segment, .code yX6_segment cX6_segment 4 (some .int)] ++ wsX60)
def wsX6_isLaid_r1 : List Cond := [Cond.fieldLink RX6 29 "LookupBoardModel" "far" "[I", Cond.constant RX6 69 (1000000), Cond.fieldLink RX6 26 "LookupBoardModel" "held" "[I", Cond.methodLink RX6 81 yX6_junction, Cond.static yX6_junction, Cond.initialized RX6, Cond.code yX6_junction cX6_junction 1 (some .int), Cond.methodLink RX6 85 yX6_reaches, Cond.instanceMethod yX6_reaches, Cond.selects RX6 yX6_reaches yX6_reaches, Cond.code yX6_reaches cX6_reaches 8 none, Cond.methodLink RX6 70 yX6_beside, Cond.static yX6_beside, Cond.code yX6_beside cX6_beside 3 (some .int), Cond.methodLink RX6 57 yX6_isPlace, Cond.static yX6_isPlace, Cond.code yX6_isPlace cX6_isPlace 1 (some .boolean), Cond.methodLink RX6 53 yX6_in, Cond.static yX6_in, Cond.code yX6_in cX6_in 3 (some .boolean), Cond.methodLink RX6 77 yX6_areBeside, Cond.static yX6_areBeside, Cond.code yX6_areBeside cX6_areBeside 3 (some .boolean), Cond.methodLink RX6 73 yX6_cost]
def wsX6_isLaid_r2 : List Cond := [Cond.instanceMethod yX6_cost, Cond.selects RX6 yX6_cost yX6_cost, Cond.code yX6_cost cX6_cost 5 (some .int), Cond.methodLink RX6 65 yX6_segment, Cond.static yX6_segment, Cond.code yX6_segment cX6_segment 4 (some .int), Cond.methodLink RX6 89 yX6_nextOn, Cond.instanceMethod yX6_nextOn, Cond.selects RX6 yX6_nextOn yX6_nextOn, Cond.code yX6_nextOn cX6_nextOn 5 (some .int)]
def wsX6_isLaid : List Cond := .code yX6_isLaid cX6_isLaid 7 (some .boolean) :: ((wsX6_isLaid_r1 ++ wsX6_isLaid_r2) ++ wsX60)
def wsX6_takesWire : List Cond := .code yX6_takesWire cX6_takesWire 3 none :: ([])
def wsX6_segments : List Cond := .code yX6_segments cX6_segments 3 (some .int) :: ([])
def wsX6_size : List Cond := .code yX6_size cX6_size 1 (some .int) :: ([])
def wsX6_span : List Cond := .code yX6_span cX6_span 4 (some .int) :: ([.methodLink RX6 81 yX6_junction, .static yX6_junction, .initialized RX6, .code yX6_junction cX6_junction 1 (some .int), .methodLink RX6 93 yX6_size, .static yX6_size, .code yX6_size cX6_size 1 (some .int)])
def wsX6_nextWire : List Cond := .code yX6_nextWire cX6_nextWire 6 (some .int) :: ([.fieldLink RX6 32 "LookupBoardModel" "done" "[Z", .methodLink RX6 96 yX6_isWire, .static yX6_isWire, .initialized RX6, .code yX6_isWire cX6_isWire 2 (some .boolean), .methodLink RX6 61 yX6_isCell, .static yX6_isCell, .code yX6_isCell cX6_isCell 2 (some .boolean), .methodLink RX6 57 yX6_isPlace, .static yX6_isPlace, .code yX6_isPlace cX6_isPlace 1 (some .boolean), .methodLink RX6 53 yX6_in, .static yX6_in, .code yX6_in cX6_in 3 (some .boolean), .methodLink RX6 99 yX6_span, .static yX6_span, .code yX6_span cX6_span 4 (some .int), .methodLink RX6 81 yX6_junction, .static yX6_junction, .code yX6_junction cX6_junction 1 (some .int), .methodLink RX6 93 yX6_size, .static yX6_size, .code yX6_size cX6_size 1 (some .int)] ++ wsX60)
def wsX6_laysAll_r1 : List Cond := [Cond.fieldLink RX6 32 "LookupBoardModel" "done" "[Z", Cond.methodLink RX6 102 yX6_takesWire, Cond.static yX6_takesWire, Cond.initialized RX6, Cond.code yX6_takesWire cX6_takesWire 3 none, Cond.methodLink RX6 105 yX6_counts, Cond.instanceMethod yX6_counts, Cond.selects RX6 yX6_counts yX6_counts, Cond.code yX6_counts cX6_counts 5 none, Cond.fieldLink RX6 26 "LookupBoardModel" "held" "[I", Cond.methodLink RX6 65 yX6_segment, Cond.static yX6_segment, Cond.code yX6_segment cX6_segment 4 (some .int), Cond.methodLink RX6 109 yX6_nextWire, Cond.instanceMethod yX6_nextWire, Cond.selects RX6 yX6_nextWire yX6_nextWire, Cond.code yX6_nextWire cX6_nextWire 6 (some .int), Cond.methodLink RX6 96 yX6_isWire, Cond.static yX6_isWire, Cond.code yX6_isWire cX6_isWire 2 (some .boolean), Cond.methodLink RX6 61 yX6_isCell, Cond.static yX6_isCell, Cond.code yX6_isCell cX6_isCell 2 (some .boolean), Cond.methodLink RX6 57 yX6_isPlace]
def wsX6_laysAll_r2 : List Cond := [Cond.static yX6_isPlace, Cond.code yX6_isPlace cX6_isPlace 1 (some .boolean), Cond.methodLink RX6 53 yX6_in, Cond.static yX6_in, Cond.code yX6_in cX6_in 3 (some .boolean), Cond.methodLink RX6 99 yX6_span, Cond.static yX6_span, Cond.code yX6_span cX6_span 4 (some .int), Cond.methodLink RX6 81 yX6_junction, Cond.static yX6_junction, Cond.code yX6_junction cX6_junction 1 (some .int), Cond.methodLink RX6 93 yX6_size, Cond.static yX6_size, Cond.code yX6_size cX6_size 1 (some .int), Cond.methodLink RX6 112 yX6_isLaid, Cond.instanceMethod yX6_isLaid, Cond.selects RX6 yX6_isLaid yX6_isLaid, Cond.code yX6_isLaid cX6_isLaid 7 (some .boolean), Cond.fieldLink RX6 29 "LookupBoardModel" "far" "[I", Cond.constant RX6 69 (1000000), Cond.methodLink RX6 85 yX6_reaches, Cond.instanceMethod yX6_reaches, Cond.selects RX6 yX6_reaches yX6_reaches, Cond.code yX6_reaches cX6_reaches 8 none]
def wsX6_laysAll_r3 : List Cond := [Cond.methodLink RX6 70 yX6_beside, Cond.static yX6_beside, Cond.code yX6_beside cX6_beside 3 (some .int), Cond.methodLink RX6 77 yX6_areBeside, Cond.static yX6_areBeside, Cond.code yX6_areBeside cX6_areBeside 3 (some .boolean), Cond.methodLink RX6 73 yX6_cost, Cond.instanceMethod yX6_cost, Cond.selects RX6 yX6_cost yX6_cost, Cond.code yX6_cost cX6_cost 5 (some .int), Cond.methodLink RX6 89 yX6_nextOn, Cond.instanceMethod yX6_nextOn, Cond.selects RX6 yX6_nextOn yX6_nextOn, Cond.code yX6_nextOn cX6_nextOn 5 (some .int), Cond.methodLink RX6 115 yX6_segments, Cond.static yX6_segments, Cond.code yX6_segments cX6_segments 3 (some .int)]
def wsX6_laysAll : List Cond := .code yX6_laysAll cX6_laysAll 4 (some .int) :: ((wsX6_laysAll_r1 ++ (wsX6_laysAll_r2 ++ wsX6_laysAll_r3)) ++ wsX60)
def wsX6_put : List Cond := .code yX6_put cX6_put 3 (some .int) :: ([.fieldLink RX6 7 "LookupBoardModel" "now" "[I", .methodLink RX6 57 yX6_isPlace, .static yX6_isPlace, .initialized RX6, .code yX6_isPlace cX6_isPlace 1 (some .boolean), .methodLink RX6 53 yX6_in, .static yX6_in, .code yX6_in cX6_in 3 (some .boolean), .methodLink RX6 61 yX6_isCell, .static yX6_isCell, .code yX6_isCell cX6_isCell 2 (some .boolean), .methodLink RX6 119 yX6_records, .instanceMethod yX6_records, .selects RX6 yX6_records yX6_records, .code yX6_records cX6_records 2 none, .fieldLink RX6 45 "LookupBoardModel" "states" "I", .fieldLink RX6 16 "LookupBoardModel" "past" "[I", .methodLink RX6 49 yX6_lays, .static yX6_lays, .code yX6_lays cX6_lays 5 none, .methodLink RX6 122 yX6_cells, .static yX6_cells, .code yX6_cells cX6_cells 3 (some .int)] ++ wsX60)
def wsX6_having : List Cond := .code yX6_having cX6_having 5 (some .int) :: ([.fieldLink RX6 7 "LookupBoardModel" "now" "[I", .methodLink RX6 96 yX6_isWire, .static yX6_isWire, .initialized RX6, .code yX6_isWire cX6_isWire 2 (some .boolean), .methodLink RX6 61 yX6_isCell, .static yX6_isCell, .code yX6_isCell cX6_isCell 2 (some .boolean), .methodLink RX6 57 yX6_isPlace, .static yX6_isPlace, .code yX6_isPlace cX6_isPlace 1 (some .boolean), .methodLink RX6 53 yX6_in, .static yX6_in, .code yX6_in cX6_in 3 (some .boolean)] ++ wsX60)
def wsX6_empties : List Cond := .code yX6_empties cX6_empties 3 none :: ([.methodLink RX6 102 yX6_takesWire, .static yX6_takesWire, .initialized RX6, .code yX6_takesWire cX6_takesWire 3 none])
def wsX6_take_r1 : List Cond := [Cond.fieldLink RX6 7 "LookupBoardModel" "now" "[I", Cond.methodLink RX6 61 yX6_isCell, Cond.static yX6_isCell, Cond.initialized RX6, Cond.code yX6_isCell cX6_isCell 2 (some .boolean), Cond.methodLink RX6 57 yX6_isPlace, Cond.static yX6_isPlace, Cond.code yX6_isPlace cX6_isPlace 1 (some .boolean), Cond.methodLink RX6 53 yX6_in, Cond.static yX6_in, Cond.code yX6_in cX6_in 3 (some .boolean), Cond.methodLink RX6 125 yX6_having, Cond.instanceMethod yX6_having, Cond.selects RX6 yX6_having yX6_having, Cond.code yX6_having cX6_having 5 (some .int), Cond.methodLink RX6 96 yX6_isWire, Cond.static yX6_isWire, Cond.code yX6_isWire cX6_isWire 2 (some .boolean), Cond.methodLink RX6 119 yX6_records, Cond.instanceMethod yX6_records, Cond.selects RX6 yX6_records yX6_records, Cond.code yX6_records cX6_records 2 none, Cond.fieldLink RX6 45 "LookupBoardModel" "states" "I", Cond.fieldLink RX6 16 "LookupBoardModel" "past" "[I"]
def wsX6_take_r2 : List Cond := [Cond.methodLink RX6 49 yX6_lays, Cond.static yX6_lays, Cond.code yX6_lays cX6_lays 5 none, Cond.methodLink RX6 128 yX6_empties, Cond.static yX6_empties, Cond.code yX6_empties cX6_empties 3 none, Cond.methodLink RX6 102 yX6_takesWire, Cond.static yX6_takesWire, Cond.code yX6_takesWire cX6_takesWire 3 none, Cond.methodLink RX6 122 yX6_cells, Cond.static yX6_cells, Cond.code yX6_cells cX6_cells 3 (some .int)]
def wsX6_take : List Cond := .code yX6_take cX6_take 2 (some .int) :: ((wsX6_take_r1 ++ wsX6_take_r2) ++ wsX60)
def wsX6_becomes : List Cond := .code yX6_becomes cX6_becomes 4 (some .int) :: ([.fieldLink RX6 7 "LookupBoardModel" "now" "[I", .methodLink RX6 119 yX6_records, .instanceMethod yX6_records, .selects RX6 yX6_records yX6_records, .initialized RX6, .code yX6_records cX6_records 2 none, .fieldLink RX6 45 "LookupBoardModel" "states" "I", .fieldLink RX6 16 "LookupBoardModel" "past" "[I", .methodLink RX6 49 yX6_lays, .static yX6_lays, .code yX6_lays cX6_lays 5 none] ++ wsX60)
def wsX6_setTable : List Cond := .code yX6_setTable cX6_setTable 3 (some .int) :: ([.fieldLink RX6 7 "LookupBoardModel" "now" "[I", .methodLink RX6 61 yX6_isCell, .static yX6_isCell, .initialized RX6, .code yX6_isCell cX6_isCell 2 (some .boolean), .methodLink RX6 57 yX6_isPlace, .static yX6_isPlace, .code yX6_isPlace cX6_isPlace 1 (some .boolean), .methodLink RX6 53 yX6_in, .static yX6_in, .code yX6_in cX6_in 3 (some .boolean), .methodLink RX6 131 yX6_becomes, .instanceMethod yX6_becomes, .selects RX6 yX6_becomes yX6_becomes, .code yX6_becomes cX6_becomes 4 (some .int), .methodLink RX6 119 yX6_records, .instanceMethod yX6_records, .selects RX6 yX6_records yX6_records, .code yX6_records cX6_records 2 none, .fieldLink RX6 45 "LookupBoardModel" "states" "I", .fieldLink RX6 16 "LookupBoardModel" "past" "[I", .methodLink RX6 49 yX6_lays, .static yX6_lays, .code yX6_lays cX6_lays 5 none] ++ wsX60)
def wsX6_isSource : List Cond := .code yX6_isSource cX6_isSource 2 (some .boolean) :: ([.methodLink RX6 53 yX6_in, .static yX6_in, .initialized RX6, .code yX6_in cX6_in 3 (some .boolean), .methodLink RX6 61 yX6_isCell, .static yX6_isCell, .code yX6_isCell cX6_isCell 2 (some .boolean), .methodLink RX6 57 yX6_isPlace, .static yX6_isPlace, .code yX6_isPlace cX6_isPlace 1 (some .boolean)])
def wsX6_connect_r1 : List Cond := [Cond.fieldLink RX6 7 "LookupBoardModel" "now" "[I", Cond.fieldLink RX6 13 "LookupBoardModel" "then" "[I", Cond.methodLink RX6 61 yX6_isCell, Cond.static yX6_isCell, Cond.initialized RX6, Cond.code yX6_isCell cX6_isCell 2 (some .boolean), Cond.methodLink RX6 57 yX6_isPlace, Cond.static yX6_isPlace, Cond.code yX6_isPlace cX6_isPlace 1 (some .boolean), Cond.methodLink RX6 53 yX6_in, Cond.static yX6_in, Cond.code yX6_in cX6_in 3 (some .boolean), Cond.methodLink RX6 134 yX6_isSource, Cond.static yX6_isSource, Cond.code yX6_isSource cX6_isSource 2 (some .boolean), Cond.methodLink RX6 49 yX6_lays, Cond.static yX6_lays, Cond.code yX6_lays cX6_lays 5 none, Cond.methodLink RX6 102 yX6_takesWire, Cond.static yX6_takesWire, Cond.code yX6_takesWire cX6_takesWire 3 none, Cond.methodLink RX6 105 yX6_counts, Cond.instanceMethod yX6_counts, Cond.selects RX6 yX6_counts yX6_counts]
def wsX6_connect_r2 : List Cond := [Cond.code yX6_counts cX6_counts 5 none, Cond.fieldLink RX6 26 "LookupBoardModel" "held" "[I", Cond.methodLink RX6 65 yX6_segment, Cond.static yX6_segment, Cond.code yX6_segment cX6_segment 4 (some .int), Cond.methodLink RX6 96 yX6_isWire, Cond.static yX6_isWire, Cond.code yX6_isWire cX6_isWire 2 (some .boolean), Cond.methodLink RX6 112 yX6_isLaid, Cond.instanceMethod yX6_isLaid, Cond.selects RX6 yX6_isLaid yX6_isLaid, Cond.code yX6_isLaid cX6_isLaid 7 (some .boolean), Cond.fieldLink RX6 29 "LookupBoardModel" "far" "[I", Cond.constant RX6 69 (1000000), Cond.methodLink RX6 81 yX6_junction, Cond.static yX6_junction, Cond.code yX6_junction cX6_junction 1 (some .int), Cond.methodLink RX6 85 yX6_reaches, Cond.instanceMethod yX6_reaches, Cond.selects RX6 yX6_reaches yX6_reaches, Cond.code yX6_reaches cX6_reaches 8 none, Cond.methodLink RX6 70 yX6_beside, Cond.static yX6_beside, Cond.code yX6_beside cX6_beside 3 (some .int)]
def wsX6_connect_r3 : List Cond := [Cond.methodLink RX6 77 yX6_areBeside, Cond.static yX6_areBeside, Cond.code yX6_areBeside cX6_areBeside 3 (some .boolean), Cond.methodLink RX6 73 yX6_cost, Cond.instanceMethod yX6_cost, Cond.selects RX6 yX6_cost yX6_cost, Cond.code yX6_cost cX6_cost 5 (some .int), Cond.methodLink RX6 89 yX6_nextOn, Cond.instanceMethod yX6_nextOn, Cond.selects RX6 yX6_nextOn yX6_nextOn, Cond.code yX6_nextOn cX6_nextOn 5 (some .int), Cond.methodLink RX6 119 yX6_records, Cond.instanceMethod yX6_records, Cond.selects RX6 yX6_records yX6_records, Cond.code yX6_records cX6_records 2 none, Cond.fieldLink RX6 45 "LookupBoardModel" "states" "I", Cond.fieldLink RX6 16 "LookupBoardModel" "past" "[I"]
def wsX6_connect : List Cond := .code yX6_connect cX6_connect 5 (some .int) :: ((wsX6_connect_r1 ++ (wsX6_connect_r2 ++ wsX6_connect_r3)) ++ wsX60)
def wsX6_isChange : List Cond := .code yX6_isChange cX6_isChange 3 (some .boolean) :: ([.methodLink RX6 61 yX6_isCell, .static yX6_isCell, .initialized RX6, .code yX6_isCell cX6_isCell 2 (some .boolean), .methodLink RX6 57 yX6_isPlace, .static yX6_isPlace, .code yX6_isPlace cX6_isPlace 1 (some .boolean), .methodLink RX6 53 yX6_in, .static yX6_in, .code yX6_in cX6_in 3 (some .boolean)])
def wsX6_swapped_r1 : List Cond := [Cond.fieldLink RX6 7 "LookupBoardModel" "now" "[I", Cond.fieldLink RX6 13 "LookupBoardModel" "then" "[I", Cond.methodLink RX6 49 yX6_lays, Cond.static yX6_lays, Cond.initialized RX6, Cond.code yX6_lays cX6_lays 5 none, Cond.methodLink RX6 137 yX6_laysAll, Cond.instanceMethod yX6_laysAll, Cond.selects RX6 yX6_laysAll yX6_laysAll, Cond.code yX6_laysAll cX6_laysAll 4 (some .int), Cond.fieldLink RX6 32 "LookupBoardModel" "done" "[Z", Cond.methodLink RX6 102 yX6_takesWire, Cond.static yX6_takesWire, Cond.code yX6_takesWire cX6_takesWire 3 none, Cond.methodLink RX6 105 yX6_counts, Cond.instanceMethod yX6_counts, Cond.selects RX6 yX6_counts yX6_counts, Cond.code yX6_counts cX6_counts 5 none, Cond.fieldLink RX6 26 "LookupBoardModel" "held" "[I", Cond.methodLink RX6 65 yX6_segment, Cond.static yX6_segment, Cond.code yX6_segment cX6_segment 4 (some .int), Cond.methodLink RX6 109 yX6_nextWire, Cond.instanceMethod yX6_nextWire]
def wsX6_swapped_r2 : List Cond := [Cond.selects RX6 yX6_nextWire yX6_nextWire, Cond.code yX6_nextWire cX6_nextWire 6 (some .int), Cond.methodLink RX6 96 yX6_isWire, Cond.static yX6_isWire, Cond.code yX6_isWire cX6_isWire 2 (some .boolean), Cond.methodLink RX6 61 yX6_isCell, Cond.static yX6_isCell, Cond.code yX6_isCell cX6_isCell 2 (some .boolean), Cond.methodLink RX6 57 yX6_isPlace, Cond.static yX6_isPlace, Cond.code yX6_isPlace cX6_isPlace 1 (some .boolean), Cond.methodLink RX6 53 yX6_in, Cond.static yX6_in, Cond.code yX6_in cX6_in 3 (some .boolean), Cond.methodLink RX6 99 yX6_span, Cond.static yX6_span, Cond.code yX6_span cX6_span 4 (some .int), Cond.methodLink RX6 81 yX6_junction, Cond.static yX6_junction, Cond.code yX6_junction cX6_junction 1 (some .int), Cond.methodLink RX6 93 yX6_size, Cond.static yX6_size, Cond.code yX6_size cX6_size 1 (some .int), Cond.methodLink RX6 112 yX6_isLaid]
def wsX6_swapped_r3 : List Cond := [Cond.instanceMethod yX6_isLaid, Cond.selects RX6 yX6_isLaid yX6_isLaid, Cond.code yX6_isLaid cX6_isLaid 7 (some .boolean), Cond.fieldLink RX6 29 "LookupBoardModel" "far" "[I", Cond.constant RX6 69 (1000000), Cond.methodLink RX6 85 yX6_reaches, Cond.instanceMethod yX6_reaches, Cond.selects RX6 yX6_reaches yX6_reaches, Cond.code yX6_reaches cX6_reaches 8 none, Cond.methodLink RX6 70 yX6_beside, Cond.static yX6_beside, Cond.code yX6_beside cX6_beside 3 (some .int), Cond.methodLink RX6 77 yX6_areBeside, Cond.static yX6_areBeside, Cond.code yX6_areBeside cX6_areBeside 3 (some .boolean), Cond.methodLink RX6 73 yX6_cost, Cond.instanceMethod yX6_cost, Cond.selects RX6 yX6_cost yX6_cost, Cond.code yX6_cost cX6_cost 5 (some .int), Cond.methodLink RX6 89 yX6_nextOn, Cond.instanceMethod yX6_nextOn, Cond.selects RX6 yX6_nextOn yX6_nextOn, Cond.code yX6_nextOn cX6_nextOn 5 (some .int), Cond.methodLink RX6 115 yX6_segments]
def wsX6_swapped_r4 : List Cond := [Cond.static yX6_segments, Cond.code yX6_segments cX6_segments 3 (some .int)]
def wsX6_swapped : List Cond := .code yX6_swapped cX6_swapped 5 (some .int) :: ((wsX6_swapped_r1 ++ (wsX6_swapped_r2 ++ (wsX6_swapped_r3 ++ wsX6_swapped_r4))) ++ wsX60)
def wsX6_accepts : List Cond := .code yX6_accepts cX6_accepts 2 (some .int) :: ([.fieldLink RX6 13 "LookupBoardModel" "then" "[I", .fieldLink RX6 7 "LookupBoardModel" "now" "[I", .methodLink RX6 119 yX6_records, .instanceMethod yX6_records, .selects RX6 yX6_records yX6_records, .initialized RX6, .code yX6_records cX6_records 2 none, .fieldLink RX6 45 "LookupBoardModel" "states" "I", .fieldLink RX6 16 "LookupBoardModel" "past" "[I", .methodLink RX6 49 yX6_lays, .static yX6_lays, .code yX6_lays cX6_lays 5 none] ++ wsX60)
def wsX6_swap_r1 : List Cond := [Cond.fieldLink RX6 7 "LookupBoardModel" "now" "[I", Cond.methodLink RX6 57 yX6_isPlace, Cond.static yX6_isPlace, Cond.initialized RX6, Cond.code yX6_isPlace cX6_isPlace 1 (some .boolean), Cond.methodLink RX6 53 yX6_in, Cond.static yX6_in, Cond.code yX6_in cX6_in 3 (some .boolean), Cond.methodLink RX6 140 yX6_isChange, Cond.static yX6_isChange, Cond.code yX6_isChange cX6_isChange 3 (some .boolean), Cond.methodLink RX6 61 yX6_isCell, Cond.static yX6_isCell, Cond.code yX6_isCell cX6_isCell 2 (some .boolean), Cond.methodLink RX6 144 yX6_swapped, Cond.instanceMethod yX6_swapped, Cond.selects RX6 yX6_swapped yX6_swapped, Cond.code yX6_swapped cX6_swapped 5 (some .int), Cond.fieldLink RX6 13 "LookupBoardModel" "then" "[I", Cond.methodLink RX6 49 yX6_lays, Cond.static yX6_lays, Cond.code yX6_lays cX6_lays 5 none, Cond.methodLink RX6 137 yX6_laysAll, Cond.instanceMethod yX6_laysAll]
def wsX6_swap_r2 : List Cond := [Cond.selects RX6 yX6_laysAll yX6_laysAll, Cond.code yX6_laysAll cX6_laysAll 4 (some .int), Cond.fieldLink RX6 32 "LookupBoardModel" "done" "[Z", Cond.methodLink RX6 102 yX6_takesWire, Cond.static yX6_takesWire, Cond.code yX6_takesWire cX6_takesWire 3 none, Cond.methodLink RX6 105 yX6_counts, Cond.instanceMethod yX6_counts, Cond.selects RX6 yX6_counts yX6_counts, Cond.code yX6_counts cX6_counts 5 none, Cond.fieldLink RX6 26 "LookupBoardModel" "held" "[I", Cond.methodLink RX6 65 yX6_segment, Cond.static yX6_segment, Cond.code yX6_segment cX6_segment 4 (some .int), Cond.methodLink RX6 109 yX6_nextWire, Cond.instanceMethod yX6_nextWire, Cond.selects RX6 yX6_nextWire yX6_nextWire, Cond.code yX6_nextWire cX6_nextWire 6 (some .int), Cond.methodLink RX6 96 yX6_isWire, Cond.static yX6_isWire, Cond.code yX6_isWire cX6_isWire 2 (some .boolean), Cond.methodLink RX6 99 yX6_span, Cond.static yX6_span, Cond.code yX6_span cX6_span 4 (some .int)]
def wsX6_swap_r3 : List Cond := [Cond.methodLink RX6 81 yX6_junction, Cond.static yX6_junction, Cond.code yX6_junction cX6_junction 1 (some .int), Cond.methodLink RX6 93 yX6_size, Cond.static yX6_size, Cond.code yX6_size cX6_size 1 (some .int), Cond.methodLink RX6 112 yX6_isLaid, Cond.instanceMethod yX6_isLaid, Cond.selects RX6 yX6_isLaid yX6_isLaid, Cond.code yX6_isLaid cX6_isLaid 7 (some .boolean), Cond.fieldLink RX6 29 "LookupBoardModel" "far" "[I", Cond.constant RX6 69 (1000000), Cond.methodLink RX6 85 yX6_reaches, Cond.instanceMethod yX6_reaches, Cond.selects RX6 yX6_reaches yX6_reaches, Cond.code yX6_reaches cX6_reaches 8 none, Cond.methodLink RX6 70 yX6_beside, Cond.static yX6_beside, Cond.code yX6_beside cX6_beside 3 (some .int), Cond.methodLink RX6 77 yX6_areBeside, Cond.static yX6_areBeside, Cond.code yX6_areBeside cX6_areBeside 3 (some .boolean), Cond.methodLink RX6 73 yX6_cost, Cond.instanceMethod yX6_cost]
def wsX6_swap_r4 : List Cond := [Cond.selects RX6 yX6_cost yX6_cost, Cond.code yX6_cost cX6_cost 5 (some .int), Cond.methodLink RX6 89 yX6_nextOn, Cond.instanceMethod yX6_nextOn, Cond.selects RX6 yX6_nextOn yX6_nextOn, Cond.code yX6_nextOn cX6_nextOn 5 (some .int), Cond.methodLink RX6 115 yX6_segments, Cond.static yX6_segments, Cond.code yX6_segments cX6_segments 3 (some .int), Cond.methodLink RX6 147 yX6_accepts, Cond.instanceMethod yX6_accepts, Cond.selects RX6 yX6_accepts yX6_accepts, Cond.code yX6_accepts cX6_accepts 2 (some .int), Cond.methodLink RX6 119 yX6_records, Cond.instanceMethod yX6_records, Cond.selects RX6 yX6_records yX6_records, Cond.code yX6_records cX6_records 2 none, Cond.fieldLink RX6 45 "LookupBoardModel" "states" "I", Cond.fieldLink RX6 16 "LookupBoardModel" "past" "[I"]
def wsX6_swap : List Cond := .code yX6_swap cX6_swap 3 (some .int) :: ((wsX6_swap_r1 ++ (wsX6_swap_r2 ++ (wsX6_swap_r3 ++ wsX6_swap_r4))) ++ wsX60)
def wsX6_ordered_r1 : List Cond := [Cond.fieldLink RX6 7 "LookupBoardModel" "now" "[I", Cond.fieldLink RX6 13 "LookupBoardModel" "then" "[I", Cond.methodLink RX6 49 yX6_lays, Cond.static yX6_lays, Cond.initialized RX6, Cond.code yX6_lays cX6_lays 5 none, Cond.methodLink RX6 137 yX6_laysAll, Cond.instanceMethod yX6_laysAll, Cond.selects RX6 yX6_laysAll yX6_laysAll, Cond.code yX6_laysAll cX6_laysAll 4 (some .int), Cond.fieldLink RX6 32 "LookupBoardModel" "done" "[Z", Cond.methodLink RX6 102 yX6_takesWire, Cond.static yX6_takesWire, Cond.code yX6_takesWire cX6_takesWire 3 none, Cond.methodLink RX6 105 yX6_counts, Cond.instanceMethod yX6_counts, Cond.selects RX6 yX6_counts yX6_counts, Cond.code yX6_counts cX6_counts 5 none, Cond.fieldLink RX6 26 "LookupBoardModel" "held" "[I", Cond.methodLink RX6 65 yX6_segment, Cond.static yX6_segment, Cond.code yX6_segment cX6_segment 4 (some .int), Cond.methodLink RX6 109 yX6_nextWire, Cond.instanceMethod yX6_nextWire]
def wsX6_ordered_r2 : List Cond := [Cond.selects RX6 yX6_nextWire yX6_nextWire, Cond.code yX6_nextWire cX6_nextWire 6 (some .int), Cond.methodLink RX6 96 yX6_isWire, Cond.static yX6_isWire, Cond.code yX6_isWire cX6_isWire 2 (some .boolean), Cond.methodLink RX6 61 yX6_isCell, Cond.static yX6_isCell, Cond.code yX6_isCell cX6_isCell 2 (some .boolean), Cond.methodLink RX6 57 yX6_isPlace, Cond.static yX6_isPlace, Cond.code yX6_isPlace cX6_isPlace 1 (some .boolean), Cond.methodLink RX6 53 yX6_in, Cond.static yX6_in, Cond.code yX6_in cX6_in 3 (some .boolean), Cond.methodLink RX6 99 yX6_span, Cond.static yX6_span, Cond.code yX6_span cX6_span 4 (some .int), Cond.methodLink RX6 81 yX6_junction, Cond.static yX6_junction, Cond.code yX6_junction cX6_junction 1 (some .int), Cond.methodLink RX6 93 yX6_size, Cond.static yX6_size, Cond.code yX6_size cX6_size 1 (some .int), Cond.methodLink RX6 112 yX6_isLaid]
def wsX6_ordered_r3 : List Cond := [Cond.instanceMethod yX6_isLaid, Cond.selects RX6 yX6_isLaid yX6_isLaid, Cond.code yX6_isLaid cX6_isLaid 7 (some .boolean), Cond.fieldLink RX6 29 "LookupBoardModel" "far" "[I", Cond.constant RX6 69 (1000000), Cond.methodLink RX6 85 yX6_reaches, Cond.instanceMethod yX6_reaches, Cond.selects RX6 yX6_reaches yX6_reaches, Cond.code yX6_reaches cX6_reaches 8 none, Cond.methodLink RX6 70 yX6_beside, Cond.static yX6_beside, Cond.code yX6_beside cX6_beside 3 (some .int), Cond.methodLink RX6 77 yX6_areBeside, Cond.static yX6_areBeside, Cond.code yX6_areBeside cX6_areBeside 3 (some .boolean), Cond.methodLink RX6 73 yX6_cost, Cond.instanceMethod yX6_cost, Cond.selects RX6 yX6_cost yX6_cost, Cond.code yX6_cost cX6_cost 5 (some .int), Cond.methodLink RX6 89 yX6_nextOn, Cond.instanceMethod yX6_nextOn, Cond.selects RX6 yX6_nextOn yX6_nextOn, Cond.code yX6_nextOn cX6_nextOn 5 (some .int), Cond.methodLink RX6 115 yX6_segments]
def wsX6_ordered_r4 : List Cond := [Cond.static yX6_segments, Cond.code yX6_segments cX6_segments 3 (some .int)]
def wsX6_ordered : List Cond := .code yX6_ordered cX6_ordered 2 (some .int) :: ((wsX6_ordered_r1 ++ (wsX6_ordered_r2 ++ (wsX6_ordered_r3 ++ wsX6_ordered_r4))) ++ wsX60)
def wsX6_layAnew_r1 : List Cond := [Cond.methodLink RX6 53 yX6_in, Cond.static yX6_in, Cond.initialized RX6, Cond.code yX6_in cX6_in 3 (some .boolean), Cond.methodLink RX6 150 yX6_ordered, Cond.instanceMethod yX6_ordered, Cond.selects RX6 yX6_ordered yX6_ordered, Cond.code yX6_ordered cX6_ordered 2 (some .int), Cond.fieldLink RX6 7 "LookupBoardModel" "now" "[I", Cond.fieldLink RX6 13 "LookupBoardModel" "then" "[I", Cond.methodLink RX6 49 yX6_lays, Cond.static yX6_lays, Cond.code yX6_lays cX6_lays 5 none, Cond.methodLink RX6 137 yX6_laysAll, Cond.instanceMethod yX6_laysAll, Cond.selects RX6 yX6_laysAll yX6_laysAll, Cond.code yX6_laysAll cX6_laysAll 4 (some .int), Cond.fieldLink RX6 32 "LookupBoardModel" "done" "[Z", Cond.methodLink RX6 102 yX6_takesWire, Cond.static yX6_takesWire, Cond.code yX6_takesWire cX6_takesWire 3 none, Cond.methodLink RX6 105 yX6_counts, Cond.instanceMethod yX6_counts, Cond.selects RX6 yX6_counts yX6_counts]
def wsX6_layAnew_r2 : List Cond := [Cond.code yX6_counts cX6_counts 5 none, Cond.fieldLink RX6 26 "LookupBoardModel" "held" "[I", Cond.methodLink RX6 65 yX6_segment, Cond.static yX6_segment, Cond.code yX6_segment cX6_segment 4 (some .int), Cond.methodLink RX6 109 yX6_nextWire, Cond.instanceMethod yX6_nextWire, Cond.selects RX6 yX6_nextWire yX6_nextWire, Cond.code yX6_nextWire cX6_nextWire 6 (some .int), Cond.methodLink RX6 96 yX6_isWire, Cond.static yX6_isWire, Cond.code yX6_isWire cX6_isWire 2 (some .boolean), Cond.methodLink RX6 61 yX6_isCell, Cond.static yX6_isCell, Cond.code yX6_isCell cX6_isCell 2 (some .boolean), Cond.methodLink RX6 57 yX6_isPlace, Cond.static yX6_isPlace, Cond.code yX6_isPlace cX6_isPlace 1 (some .boolean), Cond.methodLink RX6 99 yX6_span, Cond.static yX6_span, Cond.code yX6_span cX6_span 4 (some .int), Cond.methodLink RX6 81 yX6_junction, Cond.static yX6_junction, Cond.code yX6_junction cX6_junction 1 (some .int)]
def wsX6_layAnew_r3 : List Cond := [Cond.methodLink RX6 93 yX6_size, Cond.static yX6_size, Cond.code yX6_size cX6_size 1 (some .int), Cond.methodLink RX6 112 yX6_isLaid, Cond.instanceMethod yX6_isLaid, Cond.selects RX6 yX6_isLaid yX6_isLaid, Cond.code yX6_isLaid cX6_isLaid 7 (some .boolean), Cond.fieldLink RX6 29 "LookupBoardModel" "far" "[I", Cond.constant RX6 69 (1000000), Cond.methodLink RX6 85 yX6_reaches, Cond.instanceMethod yX6_reaches, Cond.selects RX6 yX6_reaches yX6_reaches, Cond.code yX6_reaches cX6_reaches 8 none, Cond.methodLink RX6 70 yX6_beside, Cond.static yX6_beside, Cond.code yX6_beside cX6_beside 3 (some .int), Cond.methodLink RX6 77 yX6_areBeside, Cond.static yX6_areBeside, Cond.code yX6_areBeside cX6_areBeside 3 (some .boolean), Cond.methodLink RX6 73 yX6_cost, Cond.instanceMethod yX6_cost, Cond.selects RX6 yX6_cost yX6_cost, Cond.code yX6_cost cX6_cost 5 (some .int), Cond.methodLink RX6 89 yX6_nextOn]
def wsX6_layAnew_r4 : List Cond := [Cond.instanceMethod yX6_nextOn, Cond.selects RX6 yX6_nextOn yX6_nextOn, Cond.code yX6_nextOn cX6_nextOn 5 (some .int), Cond.methodLink RX6 115 yX6_segments, Cond.static yX6_segments, Cond.code yX6_segments cX6_segments 3 (some .int), Cond.methodLink RX6 147 yX6_accepts, Cond.instanceMethod yX6_accepts, Cond.selects RX6 yX6_accepts yX6_accepts, Cond.code yX6_accepts cX6_accepts 2 (some .int), Cond.methodLink RX6 119 yX6_records, Cond.instanceMethod yX6_records, Cond.selects RX6 yX6_records yX6_records, Cond.code yX6_records cX6_records 2 none, Cond.fieldLink RX6 45 "LookupBoardModel" "states" "I", Cond.fieldLink RX6 16 "LookupBoardModel" "past" "[I"]
def wsX6_layAnew : List Cond := .code yX6_layAnew cX6_layAnew 2 (some .int) :: ((wsX6_layAnew_r1 ++ (wsX6_layAnew_r2 ++ (wsX6_layAnew_r3 ++ wsX6_layAnew_r4))) ++ wsX60)
def wsX6_set_r1 : List Cond := [Cond.fieldLink RX6 7 "LookupBoardModel" "now" "[I", Cond.methodLink RX6 53 yX6_in, Cond.static yX6_in, Cond.initialized RX6, Cond.code yX6_in cX6_in 3 (some .boolean), Cond.methodLink RX6 105 yX6_counts, Cond.instanceMethod yX6_counts, Cond.selects RX6 yX6_counts yX6_counts, Cond.code yX6_counts cX6_counts 5 none, Cond.fieldLink RX6 26 "LookupBoardModel" "held" "[I", Cond.methodLink RX6 65 yX6_segment, Cond.static yX6_segment, Cond.code yX6_segment cX6_segment 4 (some .int), Cond.methodLink RX6 153 yX6_mostHeld, Cond.instanceMethod yX6_mostHeld, Cond.selects RX6 yX6_mostHeld yX6_mostHeld, Cond.code yX6_mostHeld cX6_mostHeld 3 (some .int), Cond.methodLink RX6 131 yX6_becomes, Cond.instanceMethod yX6_becomes, Cond.selects RX6 yX6_becomes yX6_becomes, Cond.code yX6_becomes cX6_becomes 4 (some .int), Cond.methodLink RX6 119 yX6_records, Cond.instanceMethod yX6_records, Cond.selects RX6 yX6_records yX6_records]
def wsX6_set_r2 : List Cond := [Cond.code yX6_records cX6_records 2 none, Cond.fieldLink RX6 45 "LookupBoardModel" "states" "I", Cond.fieldLink RX6 16 "LookupBoardModel" "past" "[I", Cond.methodLink RX6 49 yX6_lays, Cond.static yX6_lays, Cond.code yX6_lays cX6_lays 5 none]
def wsX6_set : List Cond := .code yX6_set cX6_set 3 (some .int) :: ((wsX6_set_r1 ++ wsX6_set_r2) ++ wsX60)
def wsX6_type : List Cond := .code yX6_type cX6_type 2 (some .int) :: ([.fieldLink RX6 157 "LookupBoardModel" "length" "I", .fieldLink RX6 22 "LookupBoardModel" "text" "[C"] ++ wsX60)
def wsX6_clearText : List Cond := .code yX6_clearText cX6_clearText 2 (some .int) :: ([.fieldLink RX6 157 "LookupBoardModel" "length" "I"] ++ wsX60)
def wsX6_sees : List Cond := .code yX6_sees cX6_sees 3 (some .boolean) :: ([.fieldLink RX6 160 "LookupBoardModel" "spot" "I", .fieldLink RX6 157 "LookupBoardModel" "length" "I", .fieldLink RX6 22 "LookupBoardModel" "text" "[C", .methodLink RX6 53 yX6_in, .static yX6_in, .initialized RX6, .code yX6_in cX6_in 3 (some .boolean)] ++ wsX60)
def wsX6_takes : List Cond := .code yX6_takes cX6_takes 3 (some .boolean) :: ([.fieldLink RX6 160 "LookupBoardModel" "spot" "I", .methodLink RX6 163 yX6_sees, .instanceMethod yX6_sees, .selects RX6 yX6_sees yX6_sees, .initialized RX6, .code yX6_sees cX6_sees 3 (some .boolean), .fieldLink RX6 157 "LookupBoardModel" "length" "I", .fieldLink RX6 22 "LookupBoardModel" "text" "[C", .methodLink RX6 53 yX6_in, .static yX6_in, .code yX6_in cX6_in 3 (some .boolean)] ++ wsX60)
def wsX6_isNumber : List Cond := .code yX6_isNumber cX6_isNumber 2 (some .boolean) :: ([.fieldLink RX6 22 "LookupBoardModel" "text" "[C", .fieldLink RX6 160 "LookupBoardModel" "spot" "I", .fieldLink RX6 166 "LookupBoardModel" "number" "I", .methodLink RX6 163 yX6_sees, .instanceMethod yX6_sees, .selects RX6 yX6_sees yX6_sees, .initialized RX6, .code yX6_sees cX6_sees 3 (some .boolean), .fieldLink RX6 157 "LookupBoardModel" "length" "I", .methodLink RX6 53 yX6_in, .static yX6_in, .code yX6_in cX6_in 3 (some .boolean)] ++ wsX60)
def wsX6_sixteenth : List Cond := .code yX6_sixteenth cX6_sixteenth 2 (some .int) :: ([.fieldLink RX6 160 "LookupBoardModel" "spot" "I", .fieldLink RX6 22 "LookupBoardModel" "text" "[C", .methodLink RX6 163 yX6_sees, .instanceMethod yX6_sees, .selects RX6 yX6_sees yX6_sees, .initialized RX6, .code yX6_sees cX6_sees 3 (some .boolean), .fieldLink RX6 157 "LookupBoardModel" "length" "I", .methodLink RX6 53 yX6_in, .static yX6_in, .code yX6_in cX6_in 3 (some .boolean)] ++ wsX60)
def wsX6_isSourceTold : List Cond := .code yX6_isSourceTold cX6_isSourceTold 2 (some .boolean) :: ([.fieldLink RX6 166 "LookupBoardModel" "number" "I", .methodLink RX6 169 yX6_takes, .instanceMethod yX6_takes, .selects RX6 yX6_takes yX6_takes, .initialized RX6, .code yX6_takes cX6_takes 3 (some .boolean), .fieldLink RX6 160 "LookupBoardModel" "spot" "I", .methodLink RX6 163 yX6_sees, .instanceMethod yX6_sees, .selects RX6 yX6_sees yX6_sees, .code yX6_sees cX6_sees 3 (some .boolean), .fieldLink RX6 157 "LookupBoardModel" "length" "I", .fieldLink RX6 22 "LookupBoardModel" "text" "[C", .methodLink RX6 53 yX6_in, .static yX6_in, .code yX6_in cX6_in 3 (some .boolean), .methodLink RX6 172 yX6_isNumber, .instanceMethod yX6_isNumber, .selects RX6 yX6_isNumber yX6_isNumber, .code yX6_isNumber cX6_isNumber 2 (some .boolean)] ++ wsX60)
def wsX6_areSources_r1 : List Cond := [Cond.fieldLink RX6 36 "LookupBoardModel" "told" "[I", Cond.fieldLink RX6 166 "LookupBoardModel" "number" "I", Cond.methodLink RX6 169 yX6_takes, Cond.instanceMethod yX6_takes, Cond.selects RX6 yX6_takes yX6_takes, Cond.initialized RX6, Cond.code yX6_takes cX6_takes 3 (some .boolean), Cond.fieldLink RX6 160 "LookupBoardModel" "spot" "I", Cond.methodLink RX6 163 yX6_sees, Cond.instanceMethod yX6_sees, Cond.selects RX6 yX6_sees yX6_sees, Cond.code yX6_sees cX6_sees 3 (some .boolean), Cond.fieldLink RX6 157 "LookupBoardModel" "length" "I", Cond.fieldLink RX6 22 "LookupBoardModel" "text" "[C", Cond.methodLink RX6 53 yX6_in, Cond.static yX6_in, Cond.code yX6_in cX6_in 3 (some .boolean), Cond.methodLink RX6 175 yX6_isSourceTold, Cond.instanceMethod yX6_isSourceTold, Cond.selects RX6 yX6_isSourceTold yX6_isSourceTold, Cond.code yX6_isSourceTold cX6_isSourceTold 2 (some .boolean), Cond.methodLink RX6 172 yX6_isNumber, Cond.instanceMethod yX6_isNumber, Cond.selects RX6 yX6_isNumber yX6_isNumber]
def wsX6_areSources_r2 : List Cond := [Cond.code yX6_isNumber cX6_isNumber 2 (some .boolean)]
def wsX6_areSources : List Cond := .code yX6_areSources cX6_areSources 3 (some .boolean) :: ((wsX6_areSources_r1 ++ wsX6_areSources_r2) ++ wsX60)
def wsX6_isCellTold_r1 : List Cond := [Cond.fieldLink RX6 166 "LookupBoardModel" "number" "I", Cond.fieldLink RX6 36 "LookupBoardModel" "told" "[I", Cond.methodLink RX6 172 yX6_isNumber, Cond.instanceMethod yX6_isNumber, Cond.selects RX6 yX6_isNumber yX6_isNumber, Cond.initialized RX6, Cond.code yX6_isNumber cX6_isNumber 2 (some .boolean), Cond.fieldLink RX6 22 "LookupBoardModel" "text" "[C", Cond.fieldLink RX6 160 "LookupBoardModel" "spot" "I", Cond.methodLink RX6 163 yX6_sees, Cond.instanceMethod yX6_sees, Cond.selects RX6 yX6_sees yX6_sees, Cond.code yX6_sees cX6_sees 3 (some .boolean), Cond.fieldLink RX6 157 "LookupBoardModel" "length" "I", Cond.methodLink RX6 53 yX6_in, Cond.static yX6_in, Cond.code yX6_in cX6_in 3 (some .boolean), Cond.methodLink RX6 169 yX6_takes, Cond.instanceMethod yX6_takes, Cond.selects RX6 yX6_takes yX6_takes, Cond.code yX6_takes cX6_takes 3 (some .boolean), Cond.methodLink RX6 179 yX6_sixteenth, Cond.instanceMethod yX6_sixteenth, Cond.selects RX6 yX6_sixteenth yX6_sixteenth]
def wsX6_isCellTold_r2 : List Cond := [Cond.code yX6_sixteenth cX6_sixteenth 2 (some .int), Cond.methodLink RX6 182 yX6_areSources, Cond.instanceMethod yX6_areSources, Cond.selects RX6 yX6_areSources yX6_areSources, Cond.code yX6_areSources cX6_areSources 3 (some .boolean), Cond.methodLink RX6 175 yX6_isSourceTold, Cond.instanceMethod yX6_isSourceTold, Cond.selects RX6 yX6_isSourceTold yX6_isSourceTold, Cond.code yX6_isSourceTold cX6_isSourceTold 2 (some .boolean)]
def wsX6_isCellTold : List Cond := .code yX6_isCellTold cX6_isCellTold 4 (some .boolean) :: ((wsX6_isCellTold_r1 ++ wsX6_isCellTold_r2) ++ wsX60)
def wsX6_fault_r1 : List Cond := [Cond.fieldLink RX6 160 "LookupBoardModel" "spot" "I", Cond.fieldLink RX6 36 "LookupBoardModel" "told" "[I", Cond.fieldLink RX6 157 "LookupBoardModel" "length" "I", Cond.methodLink RX6 185 yX6_isCellTold, Cond.instanceMethod yX6_isCellTold, Cond.selects RX6 yX6_isCellTold yX6_isCellTold, Cond.initialized RX6, Cond.code yX6_isCellTold cX6_isCellTold 4 (some .boolean), Cond.fieldLink RX6 166 "LookupBoardModel" "number" "I", Cond.methodLink RX6 172 yX6_isNumber, Cond.instanceMethod yX6_isNumber, Cond.selects RX6 yX6_isNumber yX6_isNumber, Cond.code yX6_isNumber cX6_isNumber 2 (some .boolean), Cond.fieldLink RX6 22 "LookupBoardModel" "text" "[C", Cond.methodLink RX6 163 yX6_sees, Cond.instanceMethod yX6_sees, Cond.selects RX6 yX6_sees yX6_sees, Cond.code yX6_sees cX6_sees 3 (some .boolean), Cond.methodLink RX6 53 yX6_in, Cond.static yX6_in, Cond.code yX6_in cX6_in 3 (some .boolean), Cond.methodLink RX6 169 yX6_takes, Cond.instanceMethod yX6_takes, Cond.selects RX6 yX6_takes yX6_takes]
def wsX6_fault_r2 : List Cond := [Cond.code yX6_takes cX6_takes 3 (some .boolean), Cond.methodLink RX6 179 yX6_sixteenth, Cond.instanceMethod yX6_sixteenth, Cond.selects RX6 yX6_sixteenth yX6_sixteenth, Cond.code yX6_sixteenth cX6_sixteenth 2 (some .int), Cond.methodLink RX6 182 yX6_areSources, Cond.instanceMethod yX6_areSources, Cond.selects RX6 yX6_areSources yX6_areSources, Cond.code yX6_areSources cX6_areSources 3 (some .boolean), Cond.methodLink RX6 175 yX6_isSourceTold, Cond.instanceMethod yX6_isSourceTold, Cond.selects RX6 yX6_isSourceTold yX6_isSourceTold, Cond.code yX6_isSourceTold cX6_isSourceTold 2 (some .boolean)]
def wsX6_fault : List Cond := .code yX6_fault cX6_fault 2 (some .int) :: ((wsX6_fault_r1 ++ wsX6_fault_r2) ++ wsX60)
def wsX6_load_r1 : List Cond := [Cond.fieldLink RX6 7 "LookupBoardModel" "now" "[I", Cond.fieldLink RX6 13 "LookupBoardModel" "then" "[I", Cond.fieldLink RX6 36 "LookupBoardModel" "told" "[I", Cond.methodLink RX6 188 yX6_fault, Cond.instanceMethod yX6_fault, Cond.selects RX6 yX6_fault yX6_fault, Cond.initialized RX6, Cond.code yX6_fault cX6_fault 2 (some .int), Cond.fieldLink RX6 160 "LookupBoardModel" "spot" "I", Cond.fieldLink RX6 157 "LookupBoardModel" "length" "I", Cond.methodLink RX6 185 yX6_isCellTold, Cond.instanceMethod yX6_isCellTold, Cond.selects RX6 yX6_isCellTold yX6_isCellTold, Cond.code yX6_isCellTold cX6_isCellTold 4 (some .boolean), Cond.fieldLink RX6 166 "LookupBoardModel" "number" "I", Cond.methodLink RX6 172 yX6_isNumber, Cond.instanceMethod yX6_isNumber, Cond.selects RX6 yX6_isNumber yX6_isNumber, Cond.code yX6_isNumber cX6_isNumber 2 (some .boolean), Cond.fieldLink RX6 22 "LookupBoardModel" "text" "[C", Cond.methodLink RX6 163 yX6_sees, Cond.instanceMethod yX6_sees, Cond.selects RX6 yX6_sees yX6_sees, Cond.code yX6_sees cX6_sees 3 (some .boolean)]
def wsX6_load_r2 : List Cond := [Cond.methodLink RX6 53 yX6_in, Cond.static yX6_in, Cond.code yX6_in cX6_in 3 (some .boolean), Cond.methodLink RX6 169 yX6_takes, Cond.instanceMethod yX6_takes, Cond.selects RX6 yX6_takes yX6_takes, Cond.code yX6_takes cX6_takes 3 (some .boolean), Cond.methodLink RX6 179 yX6_sixteenth, Cond.instanceMethod yX6_sixteenth, Cond.selects RX6 yX6_sixteenth yX6_sixteenth, Cond.code yX6_sixteenth cX6_sixteenth 2 (some .int), Cond.methodLink RX6 182 yX6_areSources, Cond.instanceMethod yX6_areSources, Cond.selects RX6 yX6_areSources yX6_areSources, Cond.code yX6_areSources cX6_areSources 3 (some .boolean), Cond.methodLink RX6 175 yX6_isSourceTold, Cond.instanceMethod yX6_isSourceTold, Cond.selects RX6 yX6_isSourceTold yX6_isSourceTold, Cond.code yX6_isSourceTold cX6_isSourceTold 2 (some .boolean), Cond.methodLink RX6 49 yX6_lays, Cond.static yX6_lays, Cond.code yX6_lays cX6_lays 5 none, Cond.methodLink RX6 128 yX6_empties, Cond.static yX6_empties]
def wsX6_load_r3 : List Cond := [Cond.code yX6_empties cX6_empties 3 none, Cond.methodLink RX6 102 yX6_takesWire, Cond.static yX6_takesWire, Cond.code yX6_takesWire cX6_takesWire 3 none, Cond.methodLink RX6 134 yX6_isSource, Cond.static yX6_isSource, Cond.code yX6_isSource cX6_isSource 2 (some .boolean), Cond.methodLink RX6 61 yX6_isCell, Cond.static yX6_isCell, Cond.code yX6_isCell cX6_isCell 2 (some .boolean), Cond.methodLink RX6 57 yX6_isPlace, Cond.static yX6_isPlace, Cond.code yX6_isPlace cX6_isPlace 1 (some .boolean), Cond.methodLink RX6 137 yX6_laysAll, Cond.instanceMethod yX6_laysAll, Cond.selects RX6 yX6_laysAll yX6_laysAll, Cond.code yX6_laysAll cX6_laysAll 4 (some .int), Cond.fieldLink RX6 32 "LookupBoardModel" "done" "[Z", Cond.methodLink RX6 105 yX6_counts, Cond.instanceMethod yX6_counts, Cond.selects RX6 yX6_counts yX6_counts, Cond.code yX6_counts cX6_counts 5 none, Cond.fieldLink RX6 26 "LookupBoardModel" "held" "[I", Cond.methodLink RX6 65 yX6_segment]
def wsX6_load_r4 : List Cond := [Cond.static yX6_segment, Cond.code yX6_segment cX6_segment 4 (some .int), Cond.methodLink RX6 109 yX6_nextWire, Cond.instanceMethod yX6_nextWire, Cond.selects RX6 yX6_nextWire yX6_nextWire, Cond.code yX6_nextWire cX6_nextWire 6 (some .int), Cond.methodLink RX6 96 yX6_isWire, Cond.static yX6_isWire, Cond.code yX6_isWire cX6_isWire 2 (some .boolean), Cond.methodLink RX6 99 yX6_span, Cond.static yX6_span, Cond.code yX6_span cX6_span 4 (some .int), Cond.methodLink RX6 81 yX6_junction, Cond.static yX6_junction, Cond.code yX6_junction cX6_junction 1 (some .int), Cond.methodLink RX6 93 yX6_size, Cond.static yX6_size, Cond.code yX6_size cX6_size 1 (some .int), Cond.methodLink RX6 112 yX6_isLaid, Cond.instanceMethod yX6_isLaid, Cond.selects RX6 yX6_isLaid yX6_isLaid, Cond.code yX6_isLaid cX6_isLaid 7 (some .boolean), Cond.fieldLink RX6 29 "LookupBoardModel" "far" "[I", Cond.constant RX6 69 (1000000)]
def wsX6_load_r5 : List Cond := [Cond.methodLink RX6 85 yX6_reaches, Cond.instanceMethod yX6_reaches, Cond.selects RX6 yX6_reaches yX6_reaches, Cond.code yX6_reaches cX6_reaches 8 none, Cond.methodLink RX6 70 yX6_beside, Cond.static yX6_beside, Cond.code yX6_beside cX6_beside 3 (some .int), Cond.methodLink RX6 77 yX6_areBeside, Cond.static yX6_areBeside, Cond.code yX6_areBeside cX6_areBeside 3 (some .boolean), Cond.methodLink RX6 73 yX6_cost, Cond.instanceMethod yX6_cost, Cond.selects RX6 yX6_cost yX6_cost, Cond.code yX6_cost cX6_cost 5 (some .int), Cond.methodLink RX6 89 yX6_nextOn, Cond.instanceMethod yX6_nextOn, Cond.selects RX6 yX6_nextOn yX6_nextOn, Cond.code yX6_nextOn cX6_nextOn 5 (some .int), Cond.methodLink RX6 115 yX6_segments, Cond.static yX6_segments, Cond.code yX6_segments cX6_segments 3 (some .int), Cond.methodLink RX6 147 yX6_accepts, Cond.instanceMethod yX6_accepts, Cond.selects RX6 yX6_accepts yX6_accepts]
def wsX6_load_r6 : List Cond := [Cond.code yX6_accepts cX6_accepts 2 (some .int), Cond.methodLink RX6 119 yX6_records, Cond.instanceMethod yX6_records, Cond.selects RX6 yX6_records yX6_records, Cond.code yX6_records cX6_records 2 none, Cond.fieldLink RX6 45 "LookupBoardModel" "states" "I", Cond.fieldLink RX6 16 "LookupBoardModel" "past" "[I", Cond.methodLink RX6 122 yX6_cells, Cond.static yX6_cells, Cond.code yX6_cells cX6_cells 3 (some .int)]
def wsX6_load : List Cond := .code yX6_load cX6_load 3 (some .int) :: ((wsX6_load_r1 ++ (wsX6_load_r2 ++ (wsX6_load_r3 ++ (wsX6_load_r4 ++ (wsX6_load_r5 ++ wsX6_load_r6))))) ++ wsX60)
def wsX6_undo : List Cond := .code yX6_undo cX6_undo 1 (some .int) :: ([.fieldLink RX6 45 "LookupBoardModel" "states" "I", .fieldLink RX6 16 "LookupBoardModel" "past" "[I", .fieldLink RX6 7 "LookupBoardModel" "now" "[I", .methodLink RX6 49 yX6_lays, .static yX6_lays, .initialized RX6, .code yX6_lays cX6_lays 5 none] ++ wsX60)
def wsX6_keep : List Cond := .code yX6_keep cX6_keep 1 (some .int) :: ([.fieldLink RX6 7 "LookupBoardModel" "now" "[I", .fieldLink RX6 19 "LookupBoardModel" "snapshot" "[I", .fieldLink RX6 191 "LookupBoardModel" "isKept" "Z", .methodLink RX6 49 yX6_lays, .static yX6_lays, .initialized RX6, .code yX6_lays cX6_lays 5 none, .methodLink RX6 122 yX6_cells, .static yX6_cells, .code yX6_cells cX6_cells 3 (some .int), .methodLink RX6 61 yX6_isCell, .static yX6_isCell, .code yX6_isCell cX6_isCell 2 (some .boolean), .methodLink RX6 57 yX6_isPlace, .static yX6_isPlace, .code yX6_isPlace cX6_isPlace 1 (some .boolean), .methodLink RX6 53 yX6_in, .static yX6_in, .code yX6_in cX6_in 3 (some .boolean)] ++ wsX60)
def wsX6_restore_r1 : List Cond := [Cond.fieldLink RX6 191 "LookupBoardModel" "isKept" "Z", Cond.fieldLink RX6 19 "LookupBoardModel" "snapshot" "[I", Cond.fieldLink RX6 7 "LookupBoardModel" "now" "[I", Cond.methodLink RX6 119 yX6_records, Cond.instanceMethod yX6_records, Cond.selects RX6 yX6_records yX6_records, Cond.initialized RX6, Cond.code yX6_records cX6_records 2 none, Cond.fieldLink RX6 45 "LookupBoardModel" "states" "I", Cond.fieldLink RX6 16 "LookupBoardModel" "past" "[I", Cond.methodLink RX6 49 yX6_lays, Cond.static yX6_lays, Cond.code yX6_lays cX6_lays 5 none, Cond.methodLink RX6 122 yX6_cells, Cond.static yX6_cells, Cond.code yX6_cells cX6_cells 3 (some .int), Cond.methodLink RX6 61 yX6_isCell, Cond.static yX6_isCell, Cond.code yX6_isCell cX6_isCell 2 (some .boolean), Cond.methodLink RX6 57 yX6_isPlace, Cond.static yX6_isPlace, Cond.code yX6_isPlace cX6_isPlace 1 (some .boolean), Cond.methodLink RX6 53 yX6_in, Cond.static yX6_in]
def wsX6_restore_r2 : List Cond := [Cond.code yX6_in cX6_in 3 (some .boolean)]
def wsX6_restore : List Cond := .code yX6_restore cX6_restore 1 (some .int) :: ((wsX6_restore_r1 ++ wsX6_restore_r2) ++ wsX60)
def wsX6_under : List Cond := .code yX6_under cX6_under 5 (some .int) :: ([.fieldLink RX6 7 "LookupBoardModel" "now" "[I", .fieldLink RX6 39 "LookupBoardModel" "depth" "[I"] ++ wsX60)
def wsX6_bitOf : List Cond := .code yX6_bitOf cX6_bitOf 3 (some .int) :: ([.fieldLink RX6 42 "LookupBoardModel" "bit" "[I"] ++ wsX60)
def wsX6_lookedUp : List Cond := .code yX6_lookedUp cX6_lookedUp 5 (some .int) :: ([.fieldLink RX6 7 "LookupBoardModel" "now" "[I", .methodLink RX6 195 yX6_bitOf, .instanceMethod yX6_bitOf, .selects RX6 yX6_bitOf yX6_bitOf, .initialized RX6, .code yX6_bitOf cX6_bitOf 3 (some .int), .fieldLink RX6 42 "LookupBoardModel" "bit" "[I"] ++ wsX60)
def wsX6_answers_r1 : List Cond := [Cond.fieldLink RX6 39 "LookupBoardModel" "depth" "[I", Cond.fieldLink RX6 42 "LookupBoardModel" "bit" "[I", Cond.fieldLink RX6 7 "LookupBoardModel" "now" "[I", Cond.methodLink RX6 61 yX6_isCell, Cond.static yX6_isCell, Cond.initialized RX6, Cond.code yX6_isCell cX6_isCell 2 (some .boolean), Cond.methodLink RX6 57 yX6_isPlace, Cond.static yX6_isPlace, Cond.code yX6_isPlace cX6_isPlace 1 (some .boolean), Cond.methodLink RX6 53 yX6_in, Cond.static yX6_in, Cond.code yX6_in cX6_in 3 (some .boolean), Cond.methodLink RX6 198 yX6_under, Cond.instanceMethod yX6_under, Cond.selects RX6 yX6_under yX6_under, Cond.code yX6_under cX6_under 5 (some .int), Cond.methodLink RX6 201 yX6_lookedUp, Cond.instanceMethod yX6_lookedUp, Cond.selects RX6 yX6_lookedUp yX6_lookedUp, Cond.code yX6_lookedUp cX6_lookedUp 5 (some .int), Cond.methodLink RX6 195 yX6_bitOf, Cond.instanceMethod yX6_bitOf, Cond.selects RX6 yX6_bitOf yX6_bitOf]
def wsX6_answers_r2 : List Cond := [Cond.code yX6_bitOf cX6_bitOf 3 (some .int)]
def wsX6_answers : List Cond := .code yX6_answers cX6_answers 4 none :: ((wsX6_answers_r1 ++ wsX6_answers_r2) ++ wsX60)
def wsX6_ofWires : List Cond := .code yX6_ofWires cX6_ofWires 4 (some .int) :: ([.fieldLink RX6 7 "LookupBoardModel" "now" "[I"] ++ wsX60)
def wsX6_cell_r1 : List Cond := [Cond.fieldLink RX6 7 "LookupBoardModel" "now" "[I", Cond.fieldLink RX6 39 "LookupBoardModel" "depth" "[I", Cond.methodLink RX6 61 yX6_isCell, Cond.static yX6_isCell, Cond.initialized RX6, Cond.code yX6_isCell cX6_isCell 2 (some .boolean), Cond.methodLink RX6 57 yX6_isPlace, Cond.static yX6_isPlace, Cond.code yX6_isPlace cX6_isPlace 1 (some .boolean), Cond.methodLink RX6 53 yX6_in, Cond.static yX6_in, Cond.code yX6_in cX6_in 3 (some .boolean), Cond.methodLink RX6 204 yX6_answers, Cond.instanceMethod yX6_answers, Cond.selects RX6 yX6_answers yX6_answers, Cond.code yX6_answers cX6_answers 4 none, Cond.fieldLink RX6 42 "LookupBoardModel" "bit" "[I", Cond.methodLink RX6 198 yX6_under, Cond.instanceMethod yX6_under, Cond.selects RX6 yX6_under yX6_under, Cond.code yX6_under cX6_under 5 (some .int), Cond.methodLink RX6 201 yX6_lookedUp, Cond.instanceMethod yX6_lookedUp, Cond.selects RX6 yX6_lookedUp yX6_lookedUp]
def wsX6_cell_r2 : List Cond := [Cond.code yX6_lookedUp cX6_lookedUp 5 (some .int), Cond.methodLink RX6 195 yX6_bitOf, Cond.instanceMethod yX6_bitOf, Cond.selects RX6 yX6_bitOf yX6_bitOf, Cond.code yX6_bitOf cX6_bitOf 3 (some .int), Cond.methodLink RX6 125 yX6_having, Cond.instanceMethod yX6_having, Cond.selects RX6 yX6_having yX6_having, Cond.code yX6_having cX6_having 5 (some .int), Cond.methodLink RX6 96 yX6_isWire, Cond.static yX6_isWire, Cond.code yX6_isWire cX6_isWire 2 (some .boolean), Cond.methodLink RX6 208 yX6_ofWires, Cond.instanceMethod yX6_ofWires, Cond.selects RX6 yX6_ofWires yX6_ofWires, Cond.code yX6_ofWires cX6_ofWires 4 (some .int)]
def wsX6_cell : List Cond := .code yX6_cell cX6_cell 3 (some .int) :: ((wsX6_cell_r1 ++ wsX6_cell_r2) ++ wsX60)
def wsX6_path : List Cond := .code yX6_path cX6_path 5 (some .int) :: ([.fieldLink RX6 7 "LookupBoardModel" "now" "[I", .methodLink RX6 61 yX6_isCell, .static yX6_isCell, .initialized RX6, .code yX6_isCell cX6_isCell 2 (some .boolean), .methodLink RX6 57 yX6_isPlace, .static yX6_isPlace, .code yX6_isPlace cX6_isPlace 1 (some .boolean), .methodLink RX6 53 yX6_in, .static yX6_in, .code yX6_in cX6_in 3 (some .boolean)] ++ wsX60)
def wsX6_held : List Cond := .code yX6_held cX6_held 3 (some .int) :: ([.fieldLink RX6 7 "LookupBoardModel" "now" "[I", .fieldLink RX6 26 "LookupBoardModel" "held" "[I", .methodLink RX6 57 yX6_isPlace, .static yX6_isPlace, .initialized RX6, .code yX6_isPlace cX6_isPlace 1 (some .boolean), .methodLink RX6 53 yX6_in, .static yX6_in, .code yX6_in cX6_in 3 (some .boolean), .methodLink RX6 77 yX6_areBeside, .static yX6_areBeside, .code yX6_areBeside cX6_areBeside 3 (some .boolean), .methodLink RX6 105 yX6_counts, .instanceMethod yX6_counts, .selects RX6 yX6_counts yX6_counts, .code yX6_counts cX6_counts 5 none, .methodLink RX6 65 yX6_segment, .static yX6_segment, .code yX6_segment cX6_segment 4 (some .int)] ++ wsX60)
def wsX6_answer_r1 : List Cond := [Cond.fieldLink RX6 7 "LookupBoardModel" "now" "[I", Cond.fieldLink RX6 39 "LookupBoardModel" "depth" "[I", Cond.fieldLink RX6 42 "LookupBoardModel" "bit" "[I", Cond.methodLink RX6 61 yX6_isCell, Cond.static yX6_isCell, Cond.initialized RX6, Cond.code yX6_isCell cX6_isCell 2 (some .boolean), Cond.methodLink RX6 57 yX6_isPlace, Cond.static yX6_isPlace, Cond.code yX6_isPlace cX6_isPlace 1 (some .boolean), Cond.methodLink RX6 53 yX6_in, Cond.static yX6_in, Cond.code yX6_in cX6_in 3 (some .boolean), Cond.methodLink RX6 204 yX6_answers, Cond.instanceMethod yX6_answers, Cond.selects RX6 yX6_answers yX6_answers, Cond.code yX6_answers cX6_answers 4 none, Cond.methodLink RX6 198 yX6_under, Cond.instanceMethod yX6_under, Cond.selects RX6 yX6_under yX6_under, Cond.code yX6_under cX6_under 5 (some .int), Cond.methodLink RX6 201 yX6_lookedUp, Cond.instanceMethod yX6_lookedUp, Cond.selects RX6 yX6_lookedUp yX6_lookedUp]
def wsX6_answer_r2 : List Cond := [Cond.code yX6_lookedUp cX6_lookedUp 5 (some .int), Cond.methodLink RX6 195 yX6_bitOf, Cond.instanceMethod yX6_bitOf, Cond.selects RX6 yX6_bitOf yX6_bitOf, Cond.code yX6_bitOf cX6_bitOf 3 (some .int)]
def wsX6_answer : List Cond := .code yX6_answer cX6_answer 3 (some .int) :: ((wsX6_answer_r1 ++ wsX6_answer_r2) ++ wsX60)
def wsX6_ones_r1 : List Cond := [Cond.fieldLink RX6 7 "LookupBoardModel" "now" "[I", Cond.fieldLink RX6 42 "LookupBoardModel" "bit" "[I", Cond.fieldLink RX6 39 "LookupBoardModel" "depth" "[I", Cond.methodLink RX6 61 yX6_isCell, Cond.static yX6_isCell, Cond.initialized RX6, Cond.code yX6_isCell cX6_isCell 2 (some .boolean), Cond.methodLink RX6 57 yX6_isPlace, Cond.static yX6_isPlace, Cond.code yX6_isPlace cX6_isPlace 1 (some .boolean), Cond.methodLink RX6 53 yX6_in, Cond.static yX6_in, Cond.code yX6_in cX6_in 3 (some .boolean), Cond.methodLink RX6 204 yX6_answers, Cond.instanceMethod yX6_answers, Cond.selects RX6 yX6_answers yX6_answers, Cond.code yX6_answers cX6_answers 4 none, Cond.methodLink RX6 198 yX6_under, Cond.instanceMethod yX6_under, Cond.selects RX6 yX6_under yX6_under, Cond.code yX6_under cX6_under 5 (some .int), Cond.methodLink RX6 201 yX6_lookedUp, Cond.instanceMethod yX6_lookedUp, Cond.selects RX6 yX6_lookedUp yX6_lookedUp]
def wsX6_ones_r2 : List Cond := [Cond.code yX6_lookedUp cX6_lookedUp 5 (some .int), Cond.methodLink RX6 195 yX6_bitOf, Cond.instanceMethod yX6_bitOf, Cond.selects RX6 yX6_bitOf yX6_bitOf, Cond.code yX6_bitOf cX6_bitOf 3 (some .int)]
def wsX6_ones : List Cond := .code yX6_ones cX6_ones 4 (some .int) :: ((wsX6_ones_r1 ++ wsX6_ones_r2) ++ wsX60)
def wsX6_ifSwap_r1 : List Cond := [Cond.fieldLink RX6 7 "LookupBoardModel" "now" "[I", Cond.methodLink RX6 57 yX6_isPlace, Cond.static yX6_isPlace, Cond.initialized RX6, Cond.code yX6_isPlace cX6_isPlace 1 (some .boolean), Cond.methodLink RX6 53 yX6_in, Cond.static yX6_in, Cond.code yX6_in cX6_in 3 (some .boolean), Cond.methodLink RX6 140 yX6_isChange, Cond.static yX6_isChange, Cond.code yX6_isChange cX6_isChange 3 (some .boolean), Cond.methodLink RX6 61 yX6_isCell, Cond.static yX6_isCell, Cond.code yX6_isCell cX6_isCell 2 (some .boolean), Cond.methodLink RX6 144 yX6_swapped, Cond.instanceMethod yX6_swapped, Cond.selects RX6 yX6_swapped yX6_swapped, Cond.code yX6_swapped cX6_swapped 5 (some .int), Cond.fieldLink RX6 13 "LookupBoardModel" "then" "[I", Cond.methodLink RX6 49 yX6_lays, Cond.static yX6_lays, Cond.code yX6_lays cX6_lays 5 none, Cond.methodLink RX6 137 yX6_laysAll, Cond.instanceMethod yX6_laysAll]
def wsX6_ifSwap_r2 : List Cond := [Cond.selects RX6 yX6_laysAll yX6_laysAll, Cond.code yX6_laysAll cX6_laysAll 4 (some .int), Cond.fieldLink RX6 32 "LookupBoardModel" "done" "[Z", Cond.methodLink RX6 102 yX6_takesWire, Cond.static yX6_takesWire, Cond.code yX6_takesWire cX6_takesWire 3 none, Cond.methodLink RX6 105 yX6_counts, Cond.instanceMethod yX6_counts, Cond.selects RX6 yX6_counts yX6_counts, Cond.code yX6_counts cX6_counts 5 none, Cond.fieldLink RX6 26 "LookupBoardModel" "held" "[I", Cond.methodLink RX6 65 yX6_segment, Cond.static yX6_segment, Cond.code yX6_segment cX6_segment 4 (some .int), Cond.methodLink RX6 109 yX6_nextWire, Cond.instanceMethod yX6_nextWire, Cond.selects RX6 yX6_nextWire yX6_nextWire, Cond.code yX6_nextWire cX6_nextWire 6 (some .int), Cond.methodLink RX6 96 yX6_isWire, Cond.static yX6_isWire, Cond.code yX6_isWire cX6_isWire 2 (some .boolean), Cond.methodLink RX6 99 yX6_span, Cond.static yX6_span, Cond.code yX6_span cX6_span 4 (some .int)]
def wsX6_ifSwap_r3 : List Cond := [Cond.methodLink RX6 81 yX6_junction, Cond.static yX6_junction, Cond.code yX6_junction cX6_junction 1 (some .int), Cond.methodLink RX6 93 yX6_size, Cond.static yX6_size, Cond.code yX6_size cX6_size 1 (some .int), Cond.methodLink RX6 112 yX6_isLaid, Cond.instanceMethod yX6_isLaid, Cond.selects RX6 yX6_isLaid yX6_isLaid, Cond.code yX6_isLaid cX6_isLaid 7 (some .boolean), Cond.fieldLink RX6 29 "LookupBoardModel" "far" "[I", Cond.constant RX6 69 (1000000), Cond.methodLink RX6 85 yX6_reaches, Cond.instanceMethod yX6_reaches, Cond.selects RX6 yX6_reaches yX6_reaches, Cond.code yX6_reaches cX6_reaches 8 none, Cond.methodLink RX6 70 yX6_beside, Cond.static yX6_beside, Cond.code yX6_beside cX6_beside 3 (some .int), Cond.methodLink RX6 77 yX6_areBeside, Cond.static yX6_areBeside, Cond.code yX6_areBeside cX6_areBeside 3 (some .boolean), Cond.methodLink RX6 73 yX6_cost, Cond.instanceMethod yX6_cost]
def wsX6_ifSwap_r4 : List Cond := [Cond.selects RX6 yX6_cost yX6_cost, Cond.code yX6_cost cX6_cost 5 (some .int), Cond.methodLink RX6 89 yX6_nextOn, Cond.instanceMethod yX6_nextOn, Cond.selects RX6 yX6_nextOn yX6_nextOn, Cond.code yX6_nextOn cX6_nextOn 5 (some .int), Cond.methodLink RX6 115 yX6_segments, Cond.static yX6_segments, Cond.code yX6_segments cX6_segments 3 (some .int)]
def wsX6_ifSwap : List Cond := .code yX6_ifSwap cX6_ifSwap 3 (some .int) :: ((wsX6_ifSwap_r1 ++ (wsX6_ifSwap_r2 ++ (wsX6_ifSwap_r3 ++ wsX6_ifSwap_r4))) ++ wsX60)
def wsX6_bestSwap_r1 : List Cond := [Cond.fieldLink RX6 7 "LookupBoardModel" "now" "[I", Cond.methodLink RX6 61 yX6_isCell, Cond.static yX6_isCell, Cond.initialized RX6, Cond.code yX6_isCell cX6_isCell 2 (some .boolean), Cond.methodLink RX6 57 yX6_isPlace, Cond.static yX6_isPlace, Cond.code yX6_isPlace cX6_isPlace 1 (some .boolean), Cond.methodLink RX6 53 yX6_in, Cond.static yX6_in, Cond.code yX6_in cX6_in 3 (some .boolean), Cond.methodLink RX6 115 yX6_segments, Cond.static yX6_segments, Cond.code yX6_segments cX6_segments 3 (some .int), Cond.methodLink RX6 144 yX6_swapped, Cond.instanceMethod yX6_swapped, Cond.selects RX6 yX6_swapped yX6_swapped, Cond.code yX6_swapped cX6_swapped 5 (some .int), Cond.fieldLink RX6 13 "LookupBoardModel" "then" "[I", Cond.methodLink RX6 49 yX6_lays, Cond.static yX6_lays, Cond.code yX6_lays cX6_lays 5 none, Cond.methodLink RX6 137 yX6_laysAll, Cond.instanceMethod yX6_laysAll]
def wsX6_bestSwap_r2 : List Cond := [Cond.selects RX6 yX6_laysAll yX6_laysAll, Cond.code yX6_laysAll cX6_laysAll 4 (some .int), Cond.fieldLink RX6 32 "LookupBoardModel" "done" "[Z", Cond.methodLink RX6 102 yX6_takesWire, Cond.static yX6_takesWire, Cond.code yX6_takesWire cX6_takesWire 3 none, Cond.methodLink RX6 105 yX6_counts, Cond.instanceMethod yX6_counts, Cond.selects RX6 yX6_counts yX6_counts, Cond.code yX6_counts cX6_counts 5 none, Cond.fieldLink RX6 26 "LookupBoardModel" "held" "[I", Cond.methodLink RX6 65 yX6_segment, Cond.static yX6_segment, Cond.code yX6_segment cX6_segment 4 (some .int), Cond.methodLink RX6 109 yX6_nextWire, Cond.instanceMethod yX6_nextWire, Cond.selects RX6 yX6_nextWire yX6_nextWire, Cond.code yX6_nextWire cX6_nextWire 6 (some .int), Cond.methodLink RX6 96 yX6_isWire, Cond.static yX6_isWire, Cond.code yX6_isWire cX6_isWire 2 (some .boolean), Cond.methodLink RX6 99 yX6_span, Cond.static yX6_span, Cond.code yX6_span cX6_span 4 (some .int)]
def wsX6_bestSwap_r3 : List Cond := [Cond.methodLink RX6 81 yX6_junction, Cond.static yX6_junction, Cond.code yX6_junction cX6_junction 1 (some .int), Cond.methodLink RX6 93 yX6_size, Cond.static yX6_size, Cond.code yX6_size cX6_size 1 (some .int), Cond.methodLink RX6 112 yX6_isLaid, Cond.instanceMethod yX6_isLaid, Cond.selects RX6 yX6_isLaid yX6_isLaid, Cond.code yX6_isLaid cX6_isLaid 7 (some .boolean), Cond.fieldLink RX6 29 "LookupBoardModel" "far" "[I", Cond.constant RX6 69 (1000000), Cond.methodLink RX6 85 yX6_reaches, Cond.instanceMethod yX6_reaches, Cond.selects RX6 yX6_reaches yX6_reaches, Cond.code yX6_reaches cX6_reaches 8 none, Cond.methodLink RX6 70 yX6_beside, Cond.static yX6_beside, Cond.code yX6_beside cX6_beside 3 (some .int), Cond.methodLink RX6 77 yX6_areBeside, Cond.static yX6_areBeside, Cond.code yX6_areBeside cX6_areBeside 3 (some .boolean), Cond.methodLink RX6 73 yX6_cost, Cond.instanceMethod yX6_cost]
def wsX6_bestSwap_r4 : List Cond := [Cond.selects RX6 yX6_cost yX6_cost, Cond.code yX6_cost cX6_cost 5 (some .int), Cond.methodLink RX6 89 yX6_nextOn, Cond.instanceMethod yX6_nextOn, Cond.selects RX6 yX6_nextOn yX6_nextOn, Cond.code yX6_nextOn cX6_nextOn 5 (some .int)]
def wsX6_bestSwap : List Cond := .code yX6_bestSwap cX6_bestSwap 7 (some .int) :: ((wsX6_bestSwap_r1 ++ (wsX6_bestSwap_r2 ++ (wsX6_bestSwap_r3 ++ wsX6_bestSwap_r4))) ++ wsX60)
def wsX6_bestOrder_r1 : List Cond := [Cond.constant RX6 69 (1000000), Cond.methodLink RX6 150 yX6_ordered, Cond.instanceMethod yX6_ordered, Cond.selects RX6 yX6_ordered yX6_ordered, Cond.initialized RX6, Cond.code yX6_ordered cX6_ordered 2 (some .int), Cond.fieldLink RX6 7 "LookupBoardModel" "now" "[I", Cond.fieldLink RX6 13 "LookupBoardModel" "then" "[I", Cond.methodLink RX6 49 yX6_lays, Cond.static yX6_lays, Cond.code yX6_lays cX6_lays 5 none, Cond.methodLink RX6 137 yX6_laysAll, Cond.instanceMethod yX6_laysAll, Cond.selects RX6 yX6_laysAll yX6_laysAll, Cond.code yX6_laysAll cX6_laysAll 4 (some .int), Cond.fieldLink RX6 32 "LookupBoardModel" "done" "[Z", Cond.methodLink RX6 102 yX6_takesWire, Cond.static yX6_takesWire, Cond.code yX6_takesWire cX6_takesWire 3 none, Cond.methodLink RX6 105 yX6_counts, Cond.instanceMethod yX6_counts, Cond.selects RX6 yX6_counts yX6_counts, Cond.code yX6_counts cX6_counts 5 none, Cond.fieldLink RX6 26 "LookupBoardModel" "held" "[I"]
def wsX6_bestOrder_r2 : List Cond := [Cond.methodLink RX6 65 yX6_segment, Cond.static yX6_segment, Cond.code yX6_segment cX6_segment 4 (some .int), Cond.methodLink RX6 109 yX6_nextWire, Cond.instanceMethod yX6_nextWire, Cond.selects RX6 yX6_nextWire yX6_nextWire, Cond.code yX6_nextWire cX6_nextWire 6 (some .int), Cond.methodLink RX6 96 yX6_isWire, Cond.static yX6_isWire, Cond.code yX6_isWire cX6_isWire 2 (some .boolean), Cond.methodLink RX6 61 yX6_isCell, Cond.static yX6_isCell, Cond.code yX6_isCell cX6_isCell 2 (some .boolean), Cond.methodLink RX6 57 yX6_isPlace, Cond.static yX6_isPlace, Cond.code yX6_isPlace cX6_isPlace 1 (some .boolean), Cond.methodLink RX6 53 yX6_in, Cond.static yX6_in, Cond.code yX6_in cX6_in 3 (some .boolean), Cond.methodLink RX6 99 yX6_span, Cond.static yX6_span, Cond.code yX6_span cX6_span 4 (some .int), Cond.methodLink RX6 81 yX6_junction, Cond.static yX6_junction]
def wsX6_bestOrder_r3 : List Cond := [Cond.code yX6_junction cX6_junction 1 (some .int), Cond.methodLink RX6 93 yX6_size, Cond.static yX6_size, Cond.code yX6_size cX6_size 1 (some .int), Cond.methodLink RX6 112 yX6_isLaid, Cond.instanceMethod yX6_isLaid, Cond.selects RX6 yX6_isLaid yX6_isLaid, Cond.code yX6_isLaid cX6_isLaid 7 (some .boolean), Cond.fieldLink RX6 29 "LookupBoardModel" "far" "[I", Cond.methodLink RX6 85 yX6_reaches, Cond.instanceMethod yX6_reaches, Cond.selects RX6 yX6_reaches yX6_reaches, Cond.code yX6_reaches cX6_reaches 8 none, Cond.methodLink RX6 70 yX6_beside, Cond.static yX6_beside, Cond.code yX6_beside cX6_beside 3 (some .int), Cond.methodLink RX6 77 yX6_areBeside, Cond.static yX6_areBeside, Cond.code yX6_areBeside cX6_areBeside 3 (some .boolean), Cond.methodLink RX6 73 yX6_cost, Cond.instanceMethod yX6_cost, Cond.selects RX6 yX6_cost yX6_cost, Cond.code yX6_cost cX6_cost 5 (some .int), Cond.methodLink RX6 89 yX6_nextOn]
def wsX6_bestOrder_r4 : List Cond := [Cond.instanceMethod yX6_nextOn, Cond.selects RX6 yX6_nextOn yX6_nextOn, Cond.code yX6_nextOn cX6_nextOn 5 (some .int), Cond.methodLink RX6 115 yX6_segments, Cond.static yX6_segments, Cond.code yX6_segments cX6_segments 3 (some .int)]
def wsX6_bestOrder : List Cond := .code yX6_bestOrder cX6_bestOrder 6 (some .int) :: ((wsX6_bestOrder_r1 ++ (wsX6_bestOrder_r2 ++ (wsX6_bestOrder_r3 ++ wsX6_bestOrder_r4))) ++ wsX60)
def wsX6_wires : List Cond := .code yX6_wires cX6_wires 3 (some .int) :: ([.fieldLink RX6 7 "LookupBoardModel" "now" "[I", .methodLink RX6 96 yX6_isWire, .static yX6_isWire, .initialized RX6, .code yX6_isWire cX6_isWire 2 (some .boolean), .methodLink RX6 61 yX6_isCell, .static yX6_isCell, .code yX6_isCell cX6_isCell 2 (some .boolean), .methodLink RX6 57 yX6_isPlace, .static yX6_isPlace, .code yX6_isPlace cX6_isPlace 1 (some .boolean), .methodLink RX6 53 yX6_in, .static yX6_in, .code yX6_in cX6_in 3 (some .boolean)] ++ wsX60)
def wsX6_full : List Cond := .code yX6_full cX6_full 3 (some .int) :: ([.fieldLink RX6 7 "LookupBoardModel" "now" "[I", .fieldLink RX6 26 "LookupBoardModel" "held" "[I", .methodLink RX6 105 yX6_counts, .instanceMethod yX6_counts, .selects RX6 yX6_counts yX6_counts, .initialized RX6, .code yX6_counts cX6_counts 5 none, .methodLink RX6 65 yX6_segment, .static yX6_segment, .code yX6_segment cX6_segment 4 (some .int)] ++ wsX60)
def wsX6_ofDepths_r1 : List Cond := [Cond.fieldLink RX6 7 "LookupBoardModel" "now" "[I", Cond.fieldLink RX6 39 "LookupBoardModel" "depth" "[I", Cond.methodLink RX6 204 yX6_answers, Cond.instanceMethod yX6_answers, Cond.selects RX6 yX6_answers yX6_answers, Cond.initialized RX6, Cond.code yX6_answers cX6_answers 4 none, Cond.fieldLink RX6 42 "LookupBoardModel" "bit" "[I", Cond.methodLink RX6 61 yX6_isCell, Cond.static yX6_isCell, Cond.code yX6_isCell cX6_isCell 2 (some .boolean), Cond.methodLink RX6 57 yX6_isPlace, Cond.static yX6_isPlace, Cond.code yX6_isPlace cX6_isPlace 1 (some .boolean), Cond.methodLink RX6 53 yX6_in, Cond.static yX6_in, Cond.code yX6_in cX6_in 3 (some .boolean), Cond.methodLink RX6 198 yX6_under, Cond.instanceMethod yX6_under, Cond.selects RX6 yX6_under yX6_under, Cond.code yX6_under cX6_under 5 (some .int), Cond.methodLink RX6 201 yX6_lookedUp, Cond.instanceMethod yX6_lookedUp, Cond.selects RX6 yX6_lookedUp yX6_lookedUp]
def wsX6_ofDepths_r2 : List Cond := [Cond.code yX6_lookedUp cX6_lookedUp 5 (some .int), Cond.methodLink RX6 195 yX6_bitOf, Cond.instanceMethod yX6_bitOf, Cond.selects RX6 yX6_bitOf yX6_bitOf, Cond.code yX6_bitOf cX6_bitOf 3 (some .int)]
def wsX6_ofDepths : List Cond := .code yX6_ofDepths cX6_ofDepths 5 (some .int) :: ((wsX6_ofDepths_r1 ++ wsX6_ofDepths_r2) ++ wsX60)
def wsX6_most : List Cond := .code yX6_most cX6_most 1 (some .int) :: ([.fieldLink RX6 7 "LookupBoardModel" "now" "[I", .methodLink RX6 105 yX6_counts, .instanceMethod yX6_counts, .selects RX6 yX6_counts yX6_counts, .initialized RX6, .code yX6_counts cX6_counts 5 none, .fieldLink RX6 26 "LookupBoardModel" "held" "[I", .methodLink RX6 65 yX6_segment, .static yX6_segment, .code yX6_segment cX6_segment 4 (some .int), .methodLink RX6 153 yX6_mostHeld, .instanceMethod yX6_mostHeld, .selects RX6 yX6_mostHeld yX6_mostHeld, .code yX6_mostHeld cX6_mostHeld 3 (some .int)] ++ wsX60)
def wsX6_count_r1 : List Cond := [Cond.fieldLink RX6 7 "LookupBoardModel" "now" "[I", Cond.fieldLink RX6 45 "LookupBoardModel" "states" "I", Cond.fieldLink RX6 157 "LookupBoardModel" "length" "I", Cond.methodLink RX6 122 yX6_cells, Cond.static yX6_cells, Cond.initialized RX6, Cond.code yX6_cells cX6_cells 3 (some .int), Cond.methodLink RX6 61 yX6_isCell, Cond.static yX6_isCell, Cond.code yX6_isCell cX6_isCell 2 (some .boolean), Cond.methodLink RX6 57 yX6_isPlace, Cond.static yX6_isPlace, Cond.code yX6_isPlace cX6_isPlace 1 (some .boolean), Cond.methodLink RX6 53 yX6_in, Cond.static yX6_in, Cond.code yX6_in cX6_in 3 (some .boolean), Cond.methodLink RX6 211 yX6_wires, Cond.instanceMethod yX6_wires, Cond.selects RX6 yX6_wires yX6_wires, Cond.code yX6_wires cX6_wires 3 (some .int), Cond.methodLink RX6 96 yX6_isWire, Cond.static yX6_isWire, Cond.code yX6_isWire cX6_isWire 2 (some .boolean), Cond.methodLink RX6 115 yX6_segments]
def wsX6_count_r2 : List Cond := [Cond.static yX6_segments, Cond.code yX6_segments cX6_segments 3 (some .int), Cond.methodLink RX6 214 yX6_full, Cond.instanceMethod yX6_full, Cond.selects RX6 yX6_full yX6_full, Cond.code yX6_full cX6_full 3 (some .int), Cond.fieldLink RX6 26 "LookupBoardModel" "held" "[I", Cond.methodLink RX6 105 yX6_counts, Cond.instanceMethod yX6_counts, Cond.selects RX6 yX6_counts yX6_counts, Cond.code yX6_counts cX6_counts 5 none, Cond.methodLink RX6 65 yX6_segment, Cond.static yX6_segment, Cond.code yX6_segment cX6_segment 4 (some .int), Cond.methodLink RX6 217 yX6_most, Cond.instanceMethod yX6_most, Cond.selects RX6 yX6_most yX6_most, Cond.code yX6_most cX6_most 1 (some .int), Cond.methodLink RX6 153 yX6_mostHeld, Cond.instanceMethod yX6_mostHeld, Cond.selects RX6 yX6_mostHeld yX6_mostHeld, Cond.code yX6_mostHeld cX6_mostHeld 3 (some .int), Cond.methodLink RX6 220 yX6_ofDepths, Cond.instanceMethod yX6_ofDepths]
def wsX6_count_r3 : List Cond := [Cond.selects RX6 yX6_ofDepths yX6_ofDepths, Cond.code yX6_ofDepths cX6_ofDepths 5 (some .int), Cond.fieldLink RX6 39 "LookupBoardModel" "depth" "[I", Cond.methodLink RX6 204 yX6_answers, Cond.instanceMethod yX6_answers, Cond.selects RX6 yX6_answers yX6_answers, Cond.code yX6_answers cX6_answers 4 none, Cond.fieldLink RX6 42 "LookupBoardModel" "bit" "[I", Cond.methodLink RX6 198 yX6_under, Cond.instanceMethod yX6_under, Cond.selects RX6 yX6_under yX6_under, Cond.code yX6_under cX6_under 5 (some .int), Cond.methodLink RX6 201 yX6_lookedUp, Cond.instanceMethod yX6_lookedUp, Cond.selects RX6 yX6_lookedUp yX6_lookedUp, Cond.code yX6_lookedUp cX6_lookedUp 5 (some .int), Cond.methodLink RX6 195 yX6_bitOf, Cond.instanceMethod yX6_bitOf, Cond.selects RX6 yX6_bitOf yX6_bitOf, Cond.code yX6_bitOf cX6_bitOf 3 (some .int)]
def wsX6_count : List Cond := .code yX6_count cX6_count 2 (some .int) :: ((wsX6_count_r1 ++ (wsX6_count_r2 ++ wsX6_count_r3)) ++ wsX60)
def wsJ9_abs_0f7a4 : List Cond := .code yJ9_abs_0f7a4 cJ9_abs_0f7a4 1 (some .int) :: ([])
def wsJ9_max_7cf53 : List Cond := .code yJ9_max_7cf53 cJ9_max_7cf53 2 (some .int) :: ([])
def wsL_law_r1 : List Cond := [Cond.classLink RL 7 RX5, Cond.instantiable RX5 8, Cond.initialized RX5, Cond.classLink RL 10 RX6, Cond.instantiable RX6 16, Cond.initialized RX6, Cond.methodLink RL 9 yX5_init, Cond.instanceMethod yX5_init, Cond.code yX5_init cX5_init 1 none, Cond.methodLink RX5 1 objectInit, Cond.instanceMethod objectInit, Cond.code objectInit ⟨#[0xb1]⟩ 1 none, Cond.classLink RX5 7 RX0, Cond.instantiable RX0 7, Cond.initialized RX0, Cond.fieldLink RX5 10 "LookupBoard" "board" "LLookupBoard$Board;", Cond.fieldLink RX5 16 "LookupBoard" "trial" "LLookupBoard$Board;", Cond.fieldLink RX5 19 "LookupBoard" "snapshot" "LLookupBoard$Board;", Cond.classLink RX5 22 RX1, Cond.instantiable RX1 2, Cond.initialized RX1, Cond.fieldLink RX5 25 "LookupBoard" "history" "LLookupBoard$History;", Cond.classLink RX5 29 RX2, Cond.instantiable RX2 1]
def wsL_law_r2 : List Cond := [Cond.initialized RX2, Cond.fieldLink RX5 32 "LookupBoard" "layer" "LLookupBoard$Layer;", Cond.classLink RX5 36 RX3, Cond.instantiable RX3 4, Cond.initialized RX3, Cond.fieldLink RX5 39 "LookupBoard" "logic" "LLookupBoard$Logic;", Cond.classLink RX5 43 RX4, Cond.instantiable RX4 3, Cond.initialized RX4, Cond.fieldLink RX5 46 "LookupBoard" "text" "LLookupBoard$PlanText;", Cond.fieldLink RX5 50 "LookupBoard" "hasSnapshot" "Z", Cond.methodLink RX5 9 yX0_init, Cond.instanceMethod yX0_init, Cond.code yX0_init cX0_init 1 none, Cond.methodLink RX0 3 objectInit, Cond.arrayClass .int, Cond.fieldLink RX0 9 "LookupBoard$Board" "tables" "[I", Cond.fieldLink RX0 15 "LookupBoard$Board" "sources" "[I", Cond.fieldLink RX0 18 "LookupBoard$Board" "lengths" "[I", Cond.fieldLink RX0 21 "LookupBoard$Board" "junctions" "[I", Cond.fieldLink RX0 24 "LookupBoard$Board" "wiresHeld" "[I", Cond.fieldLink RX0 27 "LookupBoard$Board" "capacity" "I", Cond.fieldLink RX0 31 "LookupBoard$Board" "surcharge" "I", Cond.methodLink RX0 34 yJ7_fill_53178]
def wsL_law_r3 : List Cond := [Cond.static yJ7_fill_53178, Cond.initialized RJ7, Cond.code yJ7_fill_53178 cJ7_fill_53178 4 none, Cond.methodLink RX5 24 yX1_init, Cond.instanceMethod yX1_init, Cond.code yX1_init cX1_init 2 none, Cond.methodLink RX1 3 objectInit, Cond.classLink RX1 9 RX0, Cond.fieldLink RX1 11 "LookupBoard$History" "states" "[LLookupBoard$Board;", Cond.fieldLink RX1 17 "LookupBoard$History" "size" "I", Cond.methodLink RX1 21 yX0_init, Cond.instanceMethod yX2_init, Cond.code yX2_init cX2_init 1 none, Cond.methodLink RX2 3 objectInit, Cond.fieldLink RX2 9 "LookupBoard$Layer" "costs" "[I", Cond.instanceMethod yX3_init, Cond.code yX3_init cX3_init 1 none, Cond.methodLink RX3 3 objectInit, Cond.fieldLink RX3 9 "LookupBoard$Logic" "depths" "[I", Cond.fieldLink RX3 15 "LookupBoard$Logic" "bits" "[I", Cond.fieldLink RX3 18 "LookupBoard$Logic" "sequence" "[I", Cond.fieldLink RX3 21 "LookupBoard$Logic" "settled" "I", Cond.instanceMethod yX4_init, Cond.code yX4_init cX4_init 1 none]
def wsL_law_r4 : List Cond := [Cond.methodLink RX4 3 objectInit, Cond.arrayClass .char, Cond.fieldLink RX4 9 "LookupBoard$PlanText" "signs" "[C", Cond.fieldLink RX4 15 "LookupBoard$PlanText" "length" "I", Cond.fieldLink RX4 19 "LookupBoard$PlanText" "at" "I", Cond.methodLink RL 12 yX6_init, Cond.instanceMethod yX6_init, Cond.code yX6_init cX6_init 2 none, Cond.methodLink RX6 1 objectInit, Cond.fieldLink RX6 7 "LookupBoardModel" "now" "[I", Cond.fieldLink RX6 13 "LookupBoardModel" "then" "[I", Cond.fieldLink RX6 16 "LookupBoardModel" "past" "[I", Cond.fieldLink RX6 19 "LookupBoardModel" "snapshot" "[I", Cond.fieldLink RX6 22 "LookupBoardModel" "text" "[C", Cond.fieldLink RX6 26 "LookupBoardModel" "held" "[I", Cond.fieldLink RX6 29 "LookupBoardModel" "far" "[I", Cond.arrayClass .boolean, Cond.fieldLink RX6 32 "LookupBoardModel" "done" "[Z", Cond.fieldLink RX6 36 "LookupBoardModel" "told" "[I", Cond.fieldLink RX6 39 "LookupBoardModel" "depth" "[I", Cond.fieldLink RX6 42 "LookupBoardModel" "bit" "[I", Cond.methodLink RL 13 yX5_put, Cond.instanceMethod yX5_put, Cond.selects RX5 yX5_put yX5_put]
def wsL_law_r5 : List Cond := [Cond.code yX5_put cX5_put 3 (some .int), Cond.methodLink RX5 54 yX5_isPlace, Cond.static yX5_isPlace, Cond.code yX5_isPlace cX5_isPlace 1 (some .boolean), Cond.methodLink RX5 58 yX5_isTable, Cond.static yX5_isTable, Cond.code yX5_isTable cX5_isTable 1 (some .boolean), Cond.methodLink RX5 61 yX0_hasCell, Cond.instanceMethod yX0_hasCell, Cond.selects RX0 yX0_hasCell yX0_hasCell, Cond.code yX0_hasCell cX0_hasCell 2 (some .boolean), Cond.methodLink RX5 64 yX1_remember, Cond.instanceMethod yX1_remember, Cond.selects RX1 yX1_remember yX1_remember, Cond.code yX1_remember cX1_remember 3 none, Cond.methodLink RX1 22 yX1_dropOldest, Cond.instanceMethod yX1_dropOldest, Cond.selects RX1 yX1_dropOldest yX1_dropOldest, Cond.code yX1_dropOldest cX1_dropOldest 3 none, Cond.methodLink RX1 25 yX1_stateAt, Cond.instanceMethod yX1_stateAt, Cond.selects RX1 yX1_stateAt yX1_stateAt, Cond.code yX1_stateAt cX1_stateAt 2 (some (.object "LookupBoard$Board")), Cond.methodLink RX1 29 yX0_copyFrom]
def wsL_law_r6 : List Cond := [Cond.instanceMethod yX0_copyFrom, Cond.selects RX0 yX0_copyFrom yX0_copyFrom, Cond.code yX0_copyFrom cX0_copyFrom 2 none, Cond.methodLink RX0 40 arraycopyName, Cond.native arraycopyName, Cond.static arraycopyName, Cond.initialized "java/lang/System", Cond.methodLink RX5 68 yX0_changeTable, Cond.instanceMethod yX0_changeTable, Cond.selects RX0 yX0_changeTable yX0_changeTable, Cond.code yX0_changeTable cX0_changeTable 3 none, Cond.methodLink RX5 72 yX0_cells, Cond.instanceMethod yX0_cells, Cond.selects RX0 yX0_cells yX0_cells, Cond.code yX0_cells cX0_cells 3 (some .int), Cond.methodLink RX0 53 yX0_hasCell, Cond.methodLink RL 17 yX6_put, Cond.instanceMethod yX6_put, Cond.selects RX6 yX6_put yX6_put, Cond.code yX6_put cX6_put 3 (some .int), Cond.methodLink RX6 57 yX6_isPlace, Cond.static yX6_isPlace, Cond.code yX6_isPlace cX6_isPlace 1 (some .boolean), Cond.methodLink RX6 53 yX6_in]
def wsL_law_r7 : List Cond := [Cond.static yX6_in, Cond.code yX6_in cX6_in 3 (some .boolean), Cond.methodLink RX6 61 yX6_isCell, Cond.static yX6_isCell, Cond.code yX6_isCell cX6_isCell 2 (some .boolean), Cond.methodLink RX6 119 yX6_records, Cond.instanceMethod yX6_records, Cond.selects RX6 yX6_records yX6_records, Cond.code yX6_records cX6_records 2 none, Cond.fieldLink RX6 45 "LookupBoardModel" "states" "I", Cond.methodLink RX6 49 yX6_lays, Cond.static yX6_lays, Cond.code yX6_lays cX6_lays 5 none, Cond.methodLink RX6 122 yX6_cells, Cond.static yX6_cells, Cond.code yX6_cells cX6_cells 3 (some .int), Cond.methodLink RL 18 yX5_take, Cond.instanceMethod yX5_take, Cond.selects RX5 yX5_take yX5_take, Cond.code yX5_take cX5_take 2 (some .int), Cond.methodLink RX5 76 yX0_usesByOthers, Cond.instanceMethod yX0_usesByOthers, Cond.selects RX0 yX0_usesByOthers yX0_usesByOthers, Cond.code yX0_usesByOthers cX0_usesByOthers 4 (some .int)]
def wsL_law_r8 : List Cond := [Cond.methodLink RX0 73 yX0_uses, Cond.instanceMethod yX0_uses, Cond.selects RX0 yX0_uses yX0_uses, Cond.code yX0_uses cX0_uses 4 (some .int), Cond.methodLink RX0 77 yX0_sourceOf, Cond.instanceMethod yX0_sourceOf, Cond.selects RX0 yX0_sourceOf yX0_sourceOf, Cond.code yX0_sourceOf cX0_sourceOf 2 (some .int), Cond.static yX5_isWire, Cond.code yX5_isWire cX5_isWire 1 (some .boolean), Cond.methodLink RX5 80 yX0_removeCell, Cond.instanceMethod yX0_removeCell, Cond.selects RX0 yX0_removeCell yX0_removeCell, Cond.code yX0_removeCell cX0_removeCell 3 none, Cond.methodLink RX0 59 yX0_removeWire, Cond.instanceMethod yX0_removeWire, Cond.selects RX0 yX0_removeWire yX0_removeWire, Cond.code yX0_removeWire cX0_removeWire 4 none, Cond.methodLink RX0 86 yX0_lengthOf, Cond.instanceMethod yX0_lengthOf, Cond.selects RX0 yX0_lengthOf yX0_lengthOf, Cond.code yX0_lengthOf cX0_lengthOf 2 (some .int), Cond.methodLink RX0 96 yX0_junctionAt, Cond.instanceMethod yX0_junctionAt]
def wsL_law_r9 : List Cond := [Cond.selects RX0 yX0_junctionAt yX0_junctionAt, Cond.code yX0_junctionAt cX0_junctionAt 5 (some .int), Cond.static yX5_junctionOf, Cond.code yX5_junctionOf cX5_junctionOf 1 (some .int), Cond.static yX5_segmentBetween, Cond.code yX5_segmentBetween cX5_segmentBetween 3 (some .int), Cond.fieldLink RX5 213 "LookupBoard" "STEPS" "[I", Cond.methodLink RX5 217 yX5_segmentAt, Cond.static yX5_segmentAt, Cond.code yX5_segmentAt cX5_segmentAt 4 (some .int), Cond.methodLink RX0 63 yX0_changeSource, Cond.instanceMethod yX0_changeSource, Cond.selects RX0 yX0_changeSource yX0_changeSource, Cond.code yX0_changeSource cX0_changeSource 3 none, Cond.methodLink RX0 67 yX0_changeTable, Cond.methodLink RL 22 yX6_take, Cond.instanceMethod yX6_take, Cond.selects RX6 yX6_take yX6_take, Cond.code yX6_take cX6_take 2 (some .int), Cond.methodLink RX6 125 yX6_having, Cond.instanceMethod yX6_having, Cond.selects RX6 yX6_having yX6_having, Cond.code yX6_having cX6_having 5 (some .int), Cond.methodLink RX6 96 yX6_isWire]
def wsL_law_r10 : List Cond := [Cond.static yX6_isWire, Cond.code yX6_isWire cX6_isWire 2 (some .boolean), Cond.methodLink RX6 128 yX6_empties, Cond.static yX6_empties, Cond.code yX6_empties cX6_empties 3 none, Cond.methodLink RX6 102 yX6_takesWire, Cond.static yX6_takesWire, Cond.code yX6_takesWire cX6_takesWire 3 none, Cond.methodLink RL 23 yX5_setTable, Cond.instanceMethod yX5_setTable, Cond.selects RX5 yX5_setTable yX5_setTable, Cond.code yX5_setTable cX5_setTable 4 (some .int), Cond.methodLink RX5 84 yX0_tableOf, Cond.instanceMethod yX0_tableOf, Cond.selects RX0 yX0_tableOf yX0_tableOf, Cond.code yX0_tableOf cX0_tableOf 2 (some .int), Cond.methodLink RL 26 yX6_setTable, Cond.instanceMethod yX6_setTable, Cond.selects RX6 yX6_setTable yX6_setTable, Cond.code yX6_setTable cX6_setTable 3 (some .int), Cond.methodLink RX6 131 yX6_becomes, Cond.instanceMethod yX6_becomes, Cond.selects RX6 yX6_becomes yX6_becomes, Cond.code yX6_becomes cX6_becomes 4 (some .int)]
def wsL_law_r11 : List Cond := [Cond.methodLink RL 27 yX5_connect, Cond.instanceMethod yX5_connect, Cond.selects RX5 yX5_connect yX5_connect, Cond.code yX5_connect cX5_connect 5 (some .int), Cond.methodLink RX5 87 yX5_isInput, Cond.static yX5_isInput, Cond.code yX5_isInput cX5_isInput 1 (some .boolean), Cond.methodLink RX5 90 yX0_isSource, Cond.instanceMethod yX0_isSource, Cond.selects RX0 yX0_isSource yX0_isSource, Cond.code yX0_isSource cX0_isSource 2 (some .boolean), Cond.methodLink RX5 93 yX0_sourceOf, Cond.methodLink RX5 96 yX0_copyFrom, Cond.methodLink RX5 99 yX0_removeWire, Cond.methodLink RX5 102 yX0_changeSource, Cond.methodLink RX5 105 yX2_layWire, Cond.instanceMethod yX2_layWire, Cond.selects RX2 yX2_layWire yX2_layWire, Cond.code yX2_layWire cX2_layWire 7 (some .boolean), Cond.constant RX2 46 (1000000), Cond.methodLink RX2 32 yX0_sourceOf, Cond.methodLink RX2 42 yX2_measureCosts, Cond.instanceMethod yX2_measureCosts, Cond.selects RX2 yX2_measureCosts yX2_measureCosts]
def wsL_law_r12 : List Cond := [Cond.code yX2_measureCosts cX2_measureCosts 8 none, Cond.methodLink RX2 58 yJ7_fill_53178, Cond.methodLink RX2 64 yX2_costOver, Cond.instanceMethod yX2_costOver, Cond.selects RX2 yX2_costOver yX2_costOver, Cond.code yX2_costOver cX2_costOver 6 (some .int), Cond.methodLink RX2 75 yX0_priceOf, Cond.instanceMethod yX0_priceOf, Cond.selects RX0 yX0_priceOf yX0_priceOf, Cond.code yX0_priceOf cX0_priceOf 2 (some .int), Cond.constant RX0 99 (1000000), Cond.methodLink RX2 47 yX0_startWire, Cond.instanceMethod yX0_startWire, Cond.selects RX0 yX0_startWire yX0_startWire, Cond.code yX0_startWire cX0_startWire 3 none, Cond.methodLink RX2 51 yX2_nextJunction, Cond.instanceMethod yX2_nextJunction, Cond.selects RX2 yX2_nextJunction yX2_nextJunction, Cond.code yX2_nextJunction cX2_nextJunction 4 (some .int), Cond.methodLink RX2 55 yX0_extendWire, Cond.instanceMethod yX0_extendWire, Cond.selects RX0 yX0_extendWire yX0_extendWire, Cond.code yX0_extendWire cX0_extendWire 4 none, Cond.methodLink RX5 109 yX5_acceptTrial]
def wsL_law_r13 : List Cond := [Cond.instanceMethod yX5_acceptTrial, Cond.selects RX5 yX5_acceptTrial yX5_acceptTrial, Cond.code yX5_acceptTrial cX5_acceptTrial 1 none, Cond.methodLink RX5 112 yX0_lengthOf, Cond.methodLink RL 31 yX6_connect, Cond.instanceMethod yX6_connect, Cond.selects RX6 yX6_connect yX6_connect, Cond.code yX6_connect cX6_connect 5 (some .int), Cond.methodLink RX6 134 yX6_isSource, Cond.static yX6_isSource, Cond.code yX6_isSource cX6_isSource 2 (some .boolean), Cond.methodLink RX6 105 yX6_counts, Cond.instanceMethod yX6_counts, Cond.selects RX6 yX6_counts yX6_counts, Cond.code yX6_counts cX6_counts 5 none, Cond.methodLink RX6 65 yX6_segment, Cond.static yX6_segment, Cond.code yX6_segment cX6_segment 4 (some .int), Cond.methodLink RX6 112 yX6_isLaid, Cond.instanceMethod yX6_isLaid, Cond.selects RX6 yX6_isLaid yX6_isLaid, Cond.code yX6_isLaid cX6_isLaid 7 (some .boolean), Cond.constant RX6 69 (1000000), Cond.methodLink RX6 81 yX6_junction]
def wsL_law_r14 : List Cond := [Cond.static yX6_junction, Cond.code yX6_junction cX6_junction 1 (some .int), Cond.methodLink RX6 85 yX6_reaches, Cond.instanceMethod yX6_reaches, Cond.selects RX6 yX6_reaches yX6_reaches, Cond.code yX6_reaches cX6_reaches 8 none, Cond.methodLink RX6 70 yX6_beside, Cond.static yX6_beside, Cond.code yX6_beside cX6_beside 3 (some .int), Cond.methodLink RX6 77 yX6_areBeside, Cond.static yX6_areBeside, Cond.code yX6_areBeside cX6_areBeside 3 (some .boolean), Cond.methodLink RX6 73 yX6_cost, Cond.instanceMethod yX6_cost, Cond.selects RX6 yX6_cost yX6_cost, Cond.code yX6_cost cX6_cost 5 (some .int), Cond.methodLink RX6 89 yX6_nextOn, Cond.instanceMethod yX6_nextOn, Cond.selects RX6 yX6_nextOn yX6_nextOn, Cond.code yX6_nextOn cX6_nextOn 5 (some .int), Cond.methodLink RL 32 yX5_swap, Cond.instanceMethod yX5_swap, Cond.selects RX5 yX5_swap yX5_swap, Cond.code yX5_swap cX5_swap 4 (some .int)]
def wsL_law_r15 : List Cond := [Cond.methodLink RX5 115 yX5_trySwap, Cond.instanceMethod yX5_trySwap, Cond.selects RX5 yX5_trySwap yX5_trySwap, Cond.code yX5_trySwap cX5_trySwap 3 (some .int), Cond.methodLink RX5 210 yX0_exchange, Cond.instanceMethod yX0_exchange, Cond.selects RX0 yX0_exchange yX0_exchange, Cond.code yX0_exchange cX0_exchange 6 none, Cond.methodLink RX0 80 yX0_tableOf, Cond.methodLink RX5 142 yX2_layAll, Cond.instanceMethod yX2_layAll, Cond.selects RX2 yX2_layAll yX2_layAll, Cond.code yX2_layAll cX2_layAll 7 (some .int), Cond.methodLink RX2 15 yX0_removeAllWires, Cond.instanceMethod yX0_removeAllWires, Cond.selects RX0 yX0_removeAllWires yX0_removeAllWires, Cond.code yX0_removeAllWires cX0_removeAllWires 1 none, Cond.methodLink RX2 20 yX0_distanceOf, Cond.instanceMethod yX0_distanceOf, Cond.selects RX0 yX0_distanceOf yX0_distanceOf, Cond.code yX0_distanceOf cX0_distanceOf 3 (some .int), Cond.static yX5_distanceBetween, Cond.code yX5_distanceBetween cX5_distanceBetween 2 (some .int), Cond.methodLink RX5 220 Lib.Math.abs.name]
def wsL_law_r16 : List Cond := [Cond.static Lib.Math.abs.name, Cond.initialized "java/lang/Math", Cond.code Lib.Math.abs.name Lib.Math.abs.code 1 (some .int), Cond.methodLink RX2 24 yX2_layWire, Cond.methodLink RX2 28 yX0_segmentsOfAll, Cond.instanceMethod yX0_segmentsOfAll, Cond.selects RX0 yX0_segmentsOfAll yX0_segmentsOfAll, Cond.code yX0_segmentsOfAll cX0_segmentsOfAll 3 (some .int), Cond.methodLink RL 35 yX6_swap, Cond.instanceMethod yX6_swap, Cond.selects RX6 yX6_swap yX6_swap, Cond.code yX6_swap cX6_swap 3 (some .int), Cond.methodLink RX6 140 yX6_isChange, Cond.static yX6_isChange, Cond.code yX6_isChange cX6_isChange 3 (some .boolean), Cond.methodLink RX6 144 yX6_swapped, Cond.instanceMethod yX6_swapped, Cond.selects RX6 yX6_swapped yX6_swapped, Cond.code yX6_swapped cX6_swapped 5 (some .int), Cond.methodLink RX6 137 yX6_laysAll, Cond.instanceMethod yX6_laysAll, Cond.selects RX6 yX6_laysAll yX6_laysAll, Cond.code yX6_laysAll cX6_laysAll 4 (some .int), Cond.methodLink RX6 109 yX6_nextWire]
def wsL_law_r17 : List Cond := [Cond.instanceMethod yX6_nextWire, Cond.selects RX6 yX6_nextWire yX6_nextWire, Cond.code yX6_nextWire cX6_nextWire 6 (some .int), Cond.methodLink RX6 99 yX6_span, Cond.static yX6_span, Cond.code yX6_span cX6_span 4 (some .int), Cond.methodLink RX6 93 yX6_size, Cond.static yX6_size, Cond.code yX6_size cX6_size 1 (some .int), Cond.methodLink RX6 115 yX6_segments, Cond.static yX6_segments, Cond.code yX6_segments cX6_segments 3 (some .int), Cond.methodLink RX6 147 yX6_accepts, Cond.instanceMethod yX6_accepts, Cond.selects RX6 yX6_accepts yX6_accepts, Cond.code yX6_accepts cX6_accepts 2 (some .int), Cond.methodLink RL 36 yX5_layAnew, Cond.instanceMethod yX5_layAnew, Cond.selects RX5 yX5_layAnew yX5_layAnew, Cond.code yX5_layAnew cX5_layAnew 3 (some .int), Cond.methodLink RX5 119 yX5_tryOrder, Cond.instanceMethod yX5_tryOrder, Cond.selects RX5 yX5_tryOrder yX5_tryOrder, Cond.code yX5_tryOrder cX5_tryOrder 2 (some .int)]
def wsL_law_r18 : List Cond := [Cond.methodLink RL 39 yX6_layAnew, Cond.instanceMethod yX6_layAnew, Cond.selects RX6 yX6_layAnew yX6_layAnew, Cond.code yX6_layAnew cX6_layAnew 2 (some .int), Cond.methodLink RX6 150 yX6_ordered, Cond.instanceMethod yX6_ordered, Cond.selects RX6 yX6_ordered yX6_ordered, Cond.code yX6_ordered cX6_ordered 2 (some .int), Cond.methodLink RL 40 yX5_set, Cond.instanceMethod yX5_set, Cond.selects RX5 yX5_set yX5_set, Cond.code yX5_set cX5_set 5 (some .int), Cond.methodLink RX5 122 yX0_mostHeld, Cond.instanceMethod yX0_mostHeld, Cond.selects RX0 yX0_mostHeld yX0_mostHeld, Cond.code yX0_mostHeld cX0_mostHeld 3 (some .int), Cond.methodLink RX0 100 Lib.Math.max.name, Cond.static Lib.Math.max.name, Cond.code Lib.Math.max.name Lib.Math.max.code 2 (some .int), Cond.methodLink RX5 125 yX0_setting, Cond.instanceMethod yX0_setting, Cond.selects RX0 yX0_setting yX0_setting, Cond.code yX0_setting cX0_setting 2 (some .int), Cond.methodLink RX5 128 yX0_changeSetting]
def wsL_law_r19 : List Cond := [Cond.instanceMethod yX0_changeSetting, Cond.selects RX0 yX0_changeSetting yX0_changeSetting, Cond.code yX0_changeSetting cX0_changeSetting 3 none, Cond.methodLink RL 43 yX6_set, Cond.instanceMethod yX6_set, Cond.selects RX6 yX6_set yX6_set, Cond.code yX6_set cX6_set 3 (some .int), Cond.methodLink RX6 153 yX6_mostHeld, Cond.instanceMethod yX6_mostHeld, Cond.selects RX6 yX6_mostHeld yX6_mostHeld, Cond.code yX6_mostHeld cX6_mostHeld 3 (some .int), Cond.methodLink RL 44 yX5_load, Cond.instanceMethod yX5_load, Cond.selects RX5 yX5_load yX5_load, Cond.code yX5_load cX5_load 2 (some .int), Cond.methodLink RX5 131 yX0_removeAllCells, Cond.instanceMethod yX0_removeAllCells, Cond.selects RX0 yX0_removeAllCells yX0_removeAllCells, Cond.code yX0_removeAllCells cX0_removeAllCells 1 none, Cond.methodLink RX0 70 yX0_removeAllWires, Cond.methodLink RX5 134 yX4_readInto, Cond.instanceMethod yX4_readInto, Cond.selects RX4 yX4_readInto yX4_readInto, Cond.code yX4_readInto cX4_readInto 3 (some .int)]
def wsL_law_r20 : List Cond := [Cond.methodLink RX4 22 yX4_readCell, Cond.instanceMethod yX4_readCell, Cond.selects RX4 yX4_readCell yX4_readCell, Cond.code yX4_readCell cX4_readCell 7 (some .boolean), Cond.methodLink RX4 30 yX4_readNumber, Cond.instanceMethod yX4_readNumber, Cond.selects RX4 yX4_readNumber yX4_readNumber, Cond.code yX4_readNumber cX4_readNumber 4 (some .int), Cond.methodLink RX4 50 yX4_digitHere, Cond.instanceMethod yX4_digitHere, Cond.selects RX4 yX4_digitHere yX4_digitHere, Cond.code yX4_digitHere cX4_digitHere 2 (some .int), Cond.methodLink RX4 53 yX4_signHere, Cond.instanceMethod yX4_signHere, Cond.selects RX4 yX4_signHere yX4_signHere, Cond.code yX4_signHere cX4_signHere 1 (some .int), Cond.methodLink RX4 26 yX4_pass, Cond.instanceMethod yX4_pass, Cond.selects RX4 yX4_pass yX4_pass, Cond.code yX4_pass cX4_pass 2 (some .boolean), Cond.methodLink RX4 34 yX4_readTableSign, Cond.instanceMethod yX4_readTableSign, Cond.selects RX4 yX4_readTableSign yX4_readTableSign, Cond.code yX4_readTableSign cX4_readTableSign 3 (some .int)]
def wsL_law_r21 : List Cond := [Cond.methodLink RX4 38 yX0_changeTable, Cond.methodLink RX4 44 yX4_readSource, Cond.instanceMethod yX4_readSource, Cond.selects RX4 yX4_readSource yX4_readSource, Cond.code yX4_readSource cX4_readSource 2 (some .int), Cond.methodLink RX4 47 yX0_changeSource, Cond.methodLink RX5 138 yX0_hasAllSources, Cond.instanceMethod yX0_hasAllSources, Cond.selects RX0 yX0_hasAllSources yX0_hasAllSources, Cond.code yX0_hasAllSources cX0_hasAllSources 2 (some .boolean), Cond.methodLink RX0 56 yX0_isSource, Cond.methodLink RL 48 yX6_load, Cond.instanceMethod yX6_load, Cond.selects RX6 yX6_load yX6_load, Cond.code yX6_load cX6_load 3 (some .int), Cond.methodLink RX6 188 yX6_fault, Cond.instanceMethod yX6_fault, Cond.selects RX6 yX6_fault yX6_fault, Cond.code yX6_fault cX6_fault 2 (some .int), Cond.fieldLink RX6 160 "LookupBoardModel" "spot" "I", Cond.fieldLink RX6 157 "LookupBoardModel" "length" "I", Cond.methodLink RX6 185 yX6_isCellTold, Cond.instanceMethod yX6_isCellTold, Cond.selects RX6 yX6_isCellTold yX6_isCellTold]
def wsL_law_r22 : List Cond := [Cond.code yX6_isCellTold cX6_isCellTold 4 (some .boolean), Cond.fieldLink RX6 166 "LookupBoardModel" "number" "I", Cond.methodLink RX6 172 yX6_isNumber, Cond.instanceMethod yX6_isNumber, Cond.selects RX6 yX6_isNumber yX6_isNumber, Cond.code yX6_isNumber cX6_isNumber 2 (some .boolean), Cond.methodLink RX6 163 yX6_sees, Cond.instanceMethod yX6_sees, Cond.selects RX6 yX6_sees yX6_sees, Cond.code yX6_sees cX6_sees 3 (some .boolean), Cond.methodLink RX6 169 yX6_takes, Cond.instanceMethod yX6_takes, Cond.selects RX6 yX6_takes yX6_takes, Cond.code yX6_takes cX6_takes 3 (some .boolean), Cond.methodLink RX6 179 yX6_sixteenth, Cond.instanceMethod yX6_sixteenth, Cond.selects RX6 yX6_sixteenth yX6_sixteenth, Cond.code yX6_sixteenth cX6_sixteenth 2 (some .int), Cond.methodLink RX6 182 yX6_areSources, Cond.instanceMethod yX6_areSources, Cond.selects RX6 yX6_areSources yX6_areSources, Cond.code yX6_areSources cX6_areSources 3 (some .boolean), Cond.methodLink RX6 175 yX6_isSourceTold, Cond.instanceMethod yX6_isSourceTold]
def wsL_law_r23 : List Cond := [Cond.selects RX6 yX6_isSourceTold yX6_isSourceTold, Cond.code yX6_isSourceTold cX6_isSourceTold 2 (some .boolean), Cond.methodLink RL 49 yX5_type, Cond.instanceMethod yX5_type, Cond.selects RX5 yX5_type yX5_type, Cond.code yX5_type cX5_type 2 (some .int), Cond.methodLink RX5 146 yX4_append, Cond.instanceMethod yX4_append, Cond.selects RX4 yX4_append yX4_append, Cond.code yX4_append cX4_append 2 (some .boolean), Cond.methodLink RX5 150 yX4_length, Cond.instanceMethod yX4_length, Cond.selects RX4 yX4_length yX4_length, Cond.code yX4_length cX4_length 1 (some .int), Cond.methodLink RL 53 yX6_type, Cond.instanceMethod yX6_type, Cond.selects RX6 yX6_type yX6_type, Cond.code yX6_type cX6_type 2 (some .int), Cond.methodLink RL 54 yX5_clearText, Cond.instanceMethod yX5_clearText, Cond.selects RX5 yX5_clearText yX5_clearText, Cond.code yX5_clearText cX5_clearText 2 (some .int), Cond.methodLink RX5 153 yX4_empty, Cond.instanceMethod yX4_empty]
def wsL_law_r24 : List Cond := [Cond.selects RX4 yX4_empty yX4_empty, Cond.code yX4_empty cX4_empty 1 none, Cond.methodLink RL 57 yX6_clearText, Cond.instanceMethod yX6_clearText, Cond.selects RX6 yX6_clearText yX6_clearText, Cond.code yX6_clearText cX6_clearText 2 (some .int), Cond.methodLink RL 58 yX5_undo, Cond.instanceMethod yX5_undo, Cond.selects RX5 yX5_undo yX5_undo, Cond.code yX5_undo cX5_undo 1 (some .int), Cond.methodLink RX5 156 yX1_bringBack, Cond.instanceMethod yX1_bringBack, Cond.selects RX1 yX1_bringBack yX1_bringBack, Cond.code yX1_bringBack cX1_bringBack 3 (some .boolean), Cond.methodLink RX5 160 yX1_size, Cond.instanceMethod yX1_size, Cond.selects RX1 yX1_size yX1_size, Cond.code yX1_size cX1_size 1 (some .int), Cond.methodLink RL 61 yX6_undo, Cond.instanceMethod yX6_undo, Cond.selects RX6 yX6_undo yX6_undo, Cond.code yX6_undo cX6_undo 1 (some .int), Cond.methodLink RL 62 yX5_keep, Cond.instanceMethod yX5_keep]
def wsL_law_r25 : List Cond := [Cond.selects RX5 yX5_keep yX5_keep, Cond.code yX5_keep cX5_keep 1 (some .int), Cond.methodLink RL 65 yX6_keep, Cond.instanceMethod yX6_keep, Cond.selects RX6 yX6_keep yX6_keep, Cond.code yX6_keep cX6_keep 1 (some .int), Cond.fieldLink RX6 191 "LookupBoardModel" "isKept" "Z", Cond.methodLink RL 66 yX5_restore, Cond.instanceMethod yX5_restore, Cond.selects RX5 yX5_restore yX5_restore, Cond.code yX5_restore cX5_restore 1 (some .int), Cond.methodLink RL 69 yX6_restore, Cond.instanceMethod yX6_restore, Cond.selects RX6 yX6_restore yX6_restore, Cond.code yX6_restore cX6_restore 1 (some .int), Cond.methodLink RL 70 yX5_cell, Cond.instanceMethod yX5_cell, Cond.selects RX5 yX5_cell yX5_cell, Cond.code yX5_cell cX5_cell 3 (some .int), Cond.methodLink RX5 163 yX3_study, Cond.instanceMethod yX3_study, Cond.selects RX3 yX3_study yX3_study, Cond.code yX3_study cX3_study 4 none, Cond.methodLink RX3 25 yJ7_fill_53178]
def wsL_law_r26 : List Cond := [Cond.methodLink RX3 31 yX3_settleSome, Cond.instanceMethod yX3_settleSome, Cond.selects RX3 yX3_settleSome yX3_settleSome, Cond.code yX3_settleSome cX3_settleSome 5 (some .boolean), Cond.methodLink RX3 35 yX0_hasCell, Cond.methodLink RX3 41 yX3_depthBySources, Cond.instanceMethod yX3_depthBySources, Cond.selects RX3 yX3_depthBySources yX3_depthBySources, Cond.code yX3_depthBySources cX3_depthBySources 6 (some .int), Cond.methodLink RX3 52 Lib.Math.max.name, Cond.methodLink RX3 45 yX0_sourceOf, Cond.methodLink RX5 166 yX3_answers, Cond.instanceMethod yX3_answers, Cond.selects RX3 yX3_answers yX3_answers, Cond.code yX3_answers cX3_answers 2 (some .boolean), Cond.methodLink RX3 64 yX3_depthOf, Cond.instanceMethod yX3_depthOf, Cond.selects RX3 yX3_depthOf yX3_depthOf, Cond.code yX3_depthOf cX3_depthOf 2 (some .int), Cond.methodLink RX5 169 yX3_depthOf, Cond.methodLink RX5 172 yX0_uses, Cond.methodLink RX5 175 yX0_segmentsOfCell, Cond.instanceMethod yX0_segmentsOfCell, Cond.selects RX0 yX0_segmentsOfCell yX0_segmentsOfCell]
def wsL_law_r27 : List Cond := [Cond.code yX0_segmentsOfCell cX0_segmentsOfCell 4 (some .int), Cond.methodLink RL 73 yX6_cell, Cond.instanceMethod yX6_cell, Cond.selects RX6 yX6_cell yX6_cell, Cond.code yX6_cell cX6_cell 3 (some .int), Cond.methodLink RX6 204 yX6_answers, Cond.instanceMethod yX6_answers, Cond.selects RX6 yX6_answers yX6_answers, Cond.code yX6_answers cX6_answers 4 none, Cond.methodLink RX6 198 yX6_under, Cond.instanceMethod yX6_under, Cond.selects RX6 yX6_under yX6_under, Cond.code yX6_under cX6_under 5 (some .int), Cond.methodLink RX6 201 yX6_lookedUp, Cond.instanceMethod yX6_lookedUp, Cond.selects RX6 yX6_lookedUp yX6_lookedUp, Cond.code yX6_lookedUp cX6_lookedUp 5 (some .int), Cond.methodLink RX6 195 yX6_bitOf, Cond.instanceMethod yX6_bitOf, Cond.selects RX6 yX6_bitOf yX6_bitOf, Cond.code yX6_bitOf cX6_bitOf 3 (some .int), Cond.methodLink RX6 208 yX6_ofWires, Cond.instanceMethod yX6_ofWires, Cond.selects RX6 yX6_ofWires yX6_ofWires]
def wsL_law_r28 : List Cond := [Cond.code yX6_ofWires cX6_ofWires 4 (some .int), Cond.methodLink RL 74 yX5_path, Cond.instanceMethod yX5_path, Cond.selects RX5 yX5_path yX5_path, Cond.code yX5_path cX5_path 5 (some .int), Cond.methodLink RX5 178 yX0_junctionAt, Cond.methodLink RL 77 yX6_path, Cond.instanceMethod yX6_path, Cond.selects RX6 yX6_path yX6_path, Cond.code yX6_path cX6_path 5 (some .int), Cond.methodLink RL 78 yX5_held, Cond.instanceMethod yX5_held, Cond.selects RX5 yX5_held yX5_held, Cond.code yX5_held cX5_held 4 (some .int), Cond.methodLink RX5 181 yX5_segmentBetween, Cond.methodLink RX5 184 yX0_heldBy, Cond.instanceMethod yX0_heldBy, Cond.selects RX0 yX0_heldBy yX0_heldBy, Cond.code yX0_heldBy cX0_heldBy 2 (some .int), Cond.methodLink RL 81 yX6_held, Cond.instanceMethod yX6_held, Cond.selects RX6 yX6_held yX6_held, Cond.code yX6_held cX6_held 3 (some .int), Cond.methodLink RL 82 yX5_answer]
def wsL_law_r29 : List Cond := [Cond.instanceMethod yX5_answer, Cond.selects RX5 yX5_answer yX5_answer, Cond.code yX5_answer cX5_answer 3 (some .int), Cond.methodLink RX5 187 yX3_work, Cond.instanceMethod yX3_work, Cond.selects RX3 yX3_work yX3_work, Cond.code yX3_work cX3_work 7 none, Cond.methodLink RX3 58 yX3_sourceBit, Cond.instanceMethod yX3_sourceBit, Cond.selects RX3 yX3_sourceBit yX3_sourceBit, Cond.code yX3_sourceBit cX3_sourceBit 3 (some .int), Cond.methodLink RX3 61 yX0_tableOf, Cond.methodLink RX5 191 yX3_bitOf, Cond.instanceMethod yX3_bitOf, Cond.selects RX3 yX3_bitOf yX3_bitOf, Cond.code yX3_bitOf cX3_bitOf 2 (some .int), Cond.methodLink RL 85 yX6_answer, Cond.instanceMethod yX6_answer, Cond.selects RX6 yX6_answer yX6_answer, Cond.code yX6_answer cX6_answer 3 (some .int), Cond.methodLink RL 86 yX5_ones, Cond.instanceMethod yX5_ones, Cond.selects RX5 yX5_ones yX5_ones, Cond.code yX5_ones cX5_ones 4 (some .int)]
def wsL_law_r30 : List Cond := [Cond.methodLink RL 89 yX6_ones, Cond.instanceMethod yX6_ones, Cond.selects RX6 yX6_ones yX6_ones, Cond.code yX6_ones cX6_ones 4 (some .int), Cond.methodLink RL 90 yX5_ifSwap, Cond.instanceMethod yX5_ifSwap, Cond.selects RX5 yX5_ifSwap yX5_ifSwap, Cond.code yX5_ifSwap cX5_ifSwap 3 (some .int), Cond.methodLink RL 93 yX6_ifSwap, Cond.instanceMethod yX6_ifSwap, Cond.selects RX6 yX6_ifSwap yX6_ifSwap, Cond.code yX6_ifSwap cX6_ifSwap 3 (some .int), Cond.methodLink RL 94 yX5_bestSwap, Cond.instanceMethod yX5_bestSwap, Cond.selects RX5 yX5_bestSwap yX5_bestSwap, Cond.code yX5_bestSwap cX5_bestSwap 6 (some .int), Cond.methodLink RX5 194 yX0_segmentsOfAll, Cond.methodLink RL 97 yX6_bestSwap, Cond.instanceMethod yX6_bestSwap, Cond.selects RX6 yX6_bestSwap yX6_bestSwap, Cond.code yX6_bestSwap cX6_bestSwap 7 (some .int), Cond.methodLink RL 98 yX5_bestOrder, Cond.instanceMethod yX5_bestOrder, Cond.selects RX5 yX5_bestOrder yX5_bestOrder]
def wsL_law_r31 : List Cond := [Cond.code yX5_bestOrder cX5_bestOrder 5 (some .int), Cond.constant RX5 197 (1000000), Cond.methodLink RL 101 yX6_bestOrder, Cond.instanceMethod yX6_bestOrder, Cond.selects RX6 yX6_bestOrder yX6_bestOrder, Cond.code yX6_bestOrder cX6_bestOrder 6 (some .int), Cond.methodLink RL 102 yX5_count, Cond.instanceMethod yX5_count, Cond.selects RX5 yX5_count yX5_count, Cond.code yX5_count cX5_count 2 (some .int), Cond.methodLink RX5 198 yX0_wires, Cond.instanceMethod yX0_wires, Cond.selects RX0 yX0_wires yX0_wires, Cond.code yX0_wires cX0_wires 3 (some .int), Cond.methodLink RX5 201 yX0_fullSegments, Cond.instanceMethod yX0_fullSegments, Cond.selects RX0 yX0_fullSegments yX0_fullSegments, Cond.code yX0_fullSegments cX0_fullSegments 3 (some .int), Cond.methodLink RX5 204 yX3_cellsThatAnswer, Cond.instanceMethod yX3_cellsThatAnswer, Cond.selects RX3 yX3_cellsThatAnswer yX3_cellsThatAnswer, Cond.code yX3_cellsThatAnswer cX3_cellsThatAnswer 1 (some .int), Cond.methodLink RX5 207 yX3_greatestDepth, Cond.instanceMethod yX3_greatestDepth]
def wsL_law_r32 : List Cond := [Cond.selects RX3 yX3_greatestDepth yX3_greatestDepth, Cond.code yX3_greatestDepth cX3_greatestDepth 3 (some .int), Cond.methodLink RL 105 yX6_count, Cond.instanceMethod yX6_count, Cond.selects RX6 yX6_count yX6_count, Cond.code yX6_count cX6_count 2 (some .int), Cond.methodLink RX6 211 yX6_wires, Cond.instanceMethod yX6_wires, Cond.selects RX6 yX6_wires yX6_wires, Cond.code yX6_wires cX6_wires 3 (some .int), Cond.methodLink RX6 214 yX6_full, Cond.instanceMethod yX6_full, Cond.selects RX6 yX6_full yX6_full, Cond.code yX6_full cX6_full 3 (some .int), Cond.methodLink RX6 217 yX6_most, Cond.instanceMethod yX6_most, Cond.selects RX6 yX6_most yX6_most, Cond.code yX6_most cX6_most 1 (some .int), Cond.methodLink RX6 220 yX6_ofDepths, Cond.instanceMethod yX6_ofDepths, Cond.selects RX6 yX6_ofDepths yX6_ofDepths, Cond.code yX6_ofDepths cX6_ofDepths 5 (some .int)]
def wsL_law : List Cond := (wsL_law_r1 ++ (wsL_law_r2 ++ (wsL_law_r3 ++ (wsL_law_r4 ++ (wsL_law_r5 ++ (wsL_law_r6 ++ (wsL_law_r7 ++ (wsL_law_r8 ++ (wsL_law_r9 ++ (wsL_law_r10 ++ (wsL_law_r11 ++ (wsL_law_r12 ++ (wsL_law_r13 ++ (wsL_law_r14 ++ (wsL_law_r15 ++ (wsL_law_r16 ++ (wsL_law_r17 ++ (wsL_law_r18 ++ (wsL_law_r19 ++ (wsL_law_r20 ++ (wsL_law_r21 ++ (wsL_law_r22 ++ (wsL_law_r23 ++ (wsL_law_r24 ++ (wsL_law_r25 ++ (wsL_law_r26 ++ (wsL_law_r27 ++ (wsL_law_r28 ++ (wsL_law_r29 ++ (wsL_law_r30 ++ (wsL_law_r31 ++ wsL_law_r32))))))))))))))))))))))))))))))) ++ wsX50 ++ wsX60 ++ wsX00 ++ wsX10 ++ wsX20 ++ wsX30 ++ wsX40 ++ ([] : List Cond)
abbrev vwCl : List vw_C := [(RX0, TX0, 7), (RX1, TX1, 2), (RX2, TX2, 1), (RX3, TX3, 4), (RX4, TX4, 3), (RX5, TX5, 8), (RX6, TX6, 16)]
end
section
set_option maxRecDepth 20000 in
theorem ggX0_init_J7_fill_53178 : GoodIn wsX0_init wsJ7_fill_53178 := goodIn_r _ [15] (by decide +kernel) (by decide +kernel)
set_option maxRecDepth 20000 in
theorem gX0_init_J7_fill_53178 : GoodIn wsX0_init (va_wsS RX0 34 yJ7_fill_53178 wsJ7_fill_53178) := goodIn_app (goodIn_of _ (by decide +kernel)) ggX0_init_J7_fill_53178
theorem dX0_init_0 : decode cX0_init 0 = .ok (.aload_n 0, 1) := by decide +kernel
theorem dX0_init_1 : decode cX0_init 1 = .ok (.invokespecial 3, 3) := by decide +kernel
theorem dX0_init_4 : decode cX0_init 4 = .ok (.aload_n 0, 1) := by decide +kernel
theorem dX0_init_5 : decode cX0_init 5 = .ok (.bipush 24, 2) := by decide +kernel
theorem dX0_init_7 : decode cX0_init 7 = .ok (.newarray .int, 2) := by decide +kernel
theorem dX0_init_9 : decode cX0_init 9 = .ok (.putfield 9, 3) := by decide +kernel
theorem dX0_init_12 : decode cX0_init 12 = .ok (.aload_n 0, 1) := by decide +kernel
theorem dX0_init_13 : decode cX0_init 13 = .ok (.bipush 72, 2) := by decide +kernel
theorem dX0_init_15 : decode cX0_init 15 = .ok (.newarray .int, 2) := by decide +kernel
theorem dX0_init_17 : decode cX0_init 17 = .ok (.putfield 15, 3) := by decide +kernel
theorem dX0_init_20 : decode cX0_init 20 = .ok (.aload_n 0, 1) := by decide +kernel
theorem dX0_init_21 : decode cX0_init 21 = .ok (.bipush 72, 2) := by decide +kernel
theorem dX0_init_23 : decode cX0_init 23 = .ok (.newarray .int, 2) := by decide +kernel
theorem dX0_init_25 : decode cX0_init 25 = .ok (.putfield 18, 3) := by decide +kernel
theorem dX0_init_28 : decode cX0_init 28 = .ok (.aload_n 0, 1) := by decide +kernel
theorem dX0_init_29 : decode cX0_init 29 = .ok (.sipush 1728, 3) := by decide +kernel
theorem dX0_init_32 : decode cX0_init 32 = .ok (.newarray .int, 2) := by decide +kernel
theorem dX0_init_34 : decode cX0_init 34 = .ok (.putfield 21, 3) := by decide +kernel
theorem dX0_init_37 : decode cX0_init 37 = .ok (.aload_n 0, 1) := by decide +kernel
theorem dX0_init_38 : decode cX0_init 38 = .ok (.bipush 48, 2) := by decide +kernel
theorem dX0_init_40 : decode cX0_init 40 = .ok (.newarray .int, 2) := by decide +kernel
theorem dX0_init_42 : decode cX0_init 42 = .ok (.putfield 24, 3) := by decide +kernel
theorem dX0_init_45 : decode cX0_init 45 = .ok (.aload_n 0, 1) := by decide +kernel
theorem dX0_init_46 : decode cX0_init 46 = .ok (.iconst 2, 1) := by decide +kernel
theorem dX0_init_47 : decode cX0_init 47 = .ok (.putfield 27, 3) := by decide +kernel
theorem dX0_init_50 : decode cX0_init 50 = .ok (.aload_n 0, 1) := by decide +kernel
theorem dX0_init_51 : decode cX0_init 51 = .ok (.iconst 1, 1) := by decide +kernel
theorem dX0_init_52 : decode cX0_init 52 = .ok (.putfield 31, 3) := by decide +kernel
theorem dX0_init_55 : decode cX0_init 55 = .ok (.aload_n 0, 1) := by decide +kernel
theorem dX0_init_56 : decode cX0_init 56 = .ok (.getfield 9, 3) := by decide +kernel
theorem dX0_init_59 : decode cX0_init 59 = .ok (.iconst (-1), 1) := by decide +kernel
theorem dX0_init_60 : decode cX0_init 60 = .ok (.invokestatic 34, 3) := by decide +kernel
theorem dX0_init_63 : decode cX0_init 63 = .ok (.aload_n 0, 1) := by decide +kernel
theorem dX0_init_64 : decode cX0_init 64 = .ok (.getfield 15, 3) := by decide +kernel
theorem dX0_init_67 : decode cX0_init 67 = .ok (.bipush 32, 2) := by decide +kernel
theorem dX0_init_69 : decode cX0_init 69 = .ok (.invokestatic 34, 3) := by decide +kernel
theorem dX0_init_72 : decode cX0_init 72 = .ok (.return_, 1) := by decide +kernel
theorem dX0_copyFrom_0 : decode cX0_copyFrom 0 = .ok (.aload_n 1, 1) := by decide +kernel
theorem dX0_copyFrom_1 : decode cX0_copyFrom 1 = .ok (.getfield 9, 3) := by decide +kernel
theorem dX0_copyFrom_4 : decode cX0_copyFrom 4 = .ok (.iconst 0, 1) := by decide +kernel
theorem dX0_copyFrom_5 : decode cX0_copyFrom 5 = .ok (.aload_n 0, 1) := by decide +kernel
theorem dX0_copyFrom_6 : decode cX0_copyFrom 6 = .ok (.getfield 9, 3) := by decide +kernel
theorem dX0_copyFrom_9 : decode cX0_copyFrom 9 = .ok (.iconst 0, 1) := by decide +kernel
theorem dX0_copyFrom_10 : decode cX0_copyFrom 10 = .ok (.bipush 24, 2) := by decide +kernel
theorem dX0_copyFrom_12 : decode cX0_copyFrom 12 = .ok (.invokestatic 40, 3) := by decide +kernel
theorem dX0_copyFrom_15 : decode cX0_copyFrom 15 = .ok (.aload_n 1, 1) := by decide +kernel
theorem dX0_copyFrom_16 : decode cX0_copyFrom 16 = .ok (.getfield 15, 3) := by decide +kernel
theorem dX0_copyFrom_19 : decode cX0_copyFrom 19 = .ok (.iconst 0, 1) := by decide +kernel
theorem dX0_copyFrom_20 : decode cX0_copyFrom 20 = .ok (.aload_n 0, 1) := by decide +kernel
theorem dX0_copyFrom_21 : decode cX0_copyFrom 21 = .ok (.getfield 15, 3) := by decide +kernel
theorem dX0_copyFrom_24 : decode cX0_copyFrom 24 = .ok (.iconst 0, 1) := by decide +kernel
theorem dX0_copyFrom_25 : decode cX0_copyFrom 25 = .ok (.bipush 72, 2) := by decide +kernel
theorem dX0_copyFrom_27 : decode cX0_copyFrom 27 = .ok (.invokestatic 40, 3) := by decide +kernel
theorem dX0_copyFrom_30 : decode cX0_copyFrom 30 = .ok (.aload_n 1, 1) := by decide +kernel
theorem dX0_copyFrom_31 : decode cX0_copyFrom 31 = .ok (.getfield 18, 3) := by decide +kernel
theorem dX0_copyFrom_34 : decode cX0_copyFrom 34 = .ok (.iconst 0, 1) := by decide +kernel
theorem dX0_copyFrom_35 : decode cX0_copyFrom 35 = .ok (.aload_n 0, 1) := by decide +kernel
theorem dX0_copyFrom_36 : decode cX0_copyFrom 36 = .ok (.getfield 18, 3) := by decide +kernel
theorem dX0_copyFrom_39 : decode cX0_copyFrom 39 = .ok (.iconst 0, 1) := by decide +kernel
theorem dX0_copyFrom_40 : decode cX0_copyFrom 40 = .ok (.bipush 72, 2) := by decide +kernel
theorem dX0_copyFrom_42 : decode cX0_copyFrom 42 = .ok (.invokestatic 40, 3) := by decide +kernel
theorem dX0_copyFrom_45 : decode cX0_copyFrom 45 = .ok (.aload_n 1, 1) := by decide +kernel
theorem dX0_copyFrom_46 : decode cX0_copyFrom 46 = .ok (.getfield 21, 3) := by decide +kernel
theorem dX0_copyFrom_49 : decode cX0_copyFrom 49 = .ok (.iconst 0, 1) := by decide +kernel
theorem dX0_copyFrom_50 : decode cX0_copyFrom 50 = .ok (.aload_n 0, 1) := by decide +kernel
theorem dX0_copyFrom_51 : decode cX0_copyFrom 51 = .ok (.getfield 21, 3) := by decide +kernel
theorem dX0_copyFrom_54 : decode cX0_copyFrom 54 = .ok (.iconst 0, 1) := by decide +kernel
theorem dX0_copyFrom_55 : decode cX0_copyFrom 55 = .ok (.sipush 1728, 3) := by decide +kernel
theorem dX0_copyFrom_58 : decode cX0_copyFrom 58 = .ok (.invokestatic 40, 3) := by decide +kernel
theorem dX0_copyFrom_61 : decode cX0_copyFrom 61 = .ok (.aload_n 1, 1) := by decide +kernel
theorem dX0_copyFrom_62 : decode cX0_copyFrom 62 = .ok (.getfield 24, 3) := by decide +kernel
theorem dX0_copyFrom_65 : decode cX0_copyFrom 65 = .ok (.iconst 0, 1) := by decide +kernel
theorem dX0_copyFrom_66 : decode cX0_copyFrom 66 = .ok (.aload_n 0, 1) := by decide +kernel
theorem dX0_copyFrom_67 : decode cX0_copyFrom 67 = .ok (.getfield 24, 3) := by decide +kernel
theorem dX0_copyFrom_70 : decode cX0_copyFrom 70 = .ok (.iconst 0, 1) := by decide +kernel
theorem dX0_copyFrom_71 : decode cX0_copyFrom 71 = .ok (.bipush 48, 2) := by decide +kernel
theorem dX0_copyFrom_73 : decode cX0_copyFrom 73 = .ok (.invokestatic 40, 3) := by decide +kernel
theorem dX0_copyFrom_76 : decode cX0_copyFrom 76 = .ok (.aload_n 0, 1) := by decide +kernel
theorem dX0_copyFrom_77 : decode cX0_copyFrom 77 = .ok (.aload_n 1, 1) := by decide +kernel
theorem dX0_copyFrom_78 : decode cX0_copyFrom 78 = .ok (.getfield 27, 3) := by decide +kernel
theorem dX0_copyFrom_81 : decode cX0_copyFrom 81 = .ok (.putfield 27, 3) := by decide +kernel
theorem dX0_copyFrom_84 : decode cX0_copyFrom 84 = .ok (.aload_n 0, 1) := by decide +kernel
theorem dX0_copyFrom_85 : decode cX0_copyFrom 85 = .ok (.aload_n 1, 1) := by decide +kernel
theorem dX0_copyFrom_86 : decode cX0_copyFrom 86 = .ok (.getfield 31, 3) := by decide +kernel
theorem dX0_copyFrom_89 : decode cX0_copyFrom 89 = .ok (.putfield 31, 3) := by decide +kernel
theorem dX0_copyFrom_92 : decode cX0_copyFrom 92 = .ok (.return_, 1) := by decide +kernel
set_option maxRecDepth 20000 in
theorem ggX0_hasCell_X5_isPlace : GoodIn wsX0_hasCell wsX5_isPlace := goodIn_r _ [4] (by decide +kernel) (by decide +kernel)
set_option maxRecDepth 20000 in
theorem gX0_hasCell_X5_isPlace_n46 : GoodIn wsX0_hasCell (wsX5_isPlace) := ggX0_hasCell_X5_isPlace
theorem dX0_hasCell_0 : decode cX0_hasCell 0 = .ok (.iload_n 1, 1) := by decide +kernel
theorem dX0_hasCell_1 : decode cX0_hasCell 1 = .ok (.invokestatic 46, 3) := by decide +kernel
theorem dX0_hasCell_4 : decode cX0_hasCell 4 = .ok (.ifCond .eq 17, 3) := by decide +kernel
theorem dX0_hasCell_7 : decode cX0_hasCell 7 = .ok (.aload_n 0, 1) := by decide +kernel
theorem dX0_hasCell_8 : decode cX0_hasCell 8 = .ok (.getfield 9, 3) := by decide +kernel
theorem dX0_hasCell_11 : decode cX0_hasCell 11 = .ok (.iload_n 1, 1) := by decide +kernel
theorem dX0_hasCell_12 : decode cX0_hasCell 12 = .ok (.iaload, 1) := by decide +kernel
theorem dX0_hasCell_13 : decode cX0_hasCell 13 = .ok (.iconst (-1), 1) := by decide +kernel
theorem dX0_hasCell_14 : decode cX0_hasCell 14 = .ok (.if_icmp .eq 7, 3) := by decide +kernel
theorem dX0_hasCell_17 : decode cX0_hasCell 17 = .ok (.iconst 1, 1) := by decide +kernel
theorem dX0_hasCell_18 : decode cX0_hasCell 18 = .ok (.goto 4, 3) := by decide +kernel
theorem dX0_hasCell_21 : decode cX0_hasCell 21 = .ok (.iconst 0, 1) := by decide +kernel
theorem dX0_hasCell_22 : decode cX0_hasCell 22 = .ok (.ireturn, 1) := by decide +kernel
set_option maxRecDepth 20000 in
theorem ggX0_tableOf_X5_isPlace : GoodIn wsX0_tableOf wsX5_isPlace := goodIn_r _ [4] (by decide +kernel) (by decide +kernel)
set_option maxRecDepth 20000 in
theorem gX0_tableOf_X5_isPlace_n46 : GoodIn wsX0_tableOf (wsX5_isPlace) := ggX0_tableOf_X5_isPlace
theorem dX0_tableOf_0 : decode cX0_tableOf 0 = .ok (.iload_n 1, 1) := by decide +kernel
theorem dX0_tableOf_1 : decode cX0_tableOf 1 = .ok (.invokestatic 46, 3) := by decide +kernel
theorem dX0_tableOf_4 : decode cX0_tableOf 4 = .ok (.ifCond .eq 12, 3) := by decide +kernel
theorem dX0_tableOf_7 : decode cX0_tableOf 7 = .ok (.aload_n 0, 1) := by decide +kernel
theorem dX0_tableOf_8 : decode cX0_tableOf 8 = .ok (.getfield 9, 3) := by decide +kernel
theorem dX0_tableOf_11 : decode cX0_tableOf 11 = .ok (.iload_n 1, 1) := by decide +kernel
theorem dX0_tableOf_12 : decode cX0_tableOf 12 = .ok (.iaload, 1) := by decide +kernel
theorem dX0_tableOf_13 : decode cX0_tableOf 13 = .ok (.goto 4, 3) := by decide +kernel
theorem dX0_tableOf_16 : decode cX0_tableOf 16 = .ok (.iconst (-1), 1) := by decide +kernel
theorem dX0_tableOf_17 : decode cX0_tableOf 17 = .ok (.ireturn, 1) := by decide +kernel
set_option maxRecDepth 20000 in
theorem ggX0_changeTable_X5_isPlace : GoodIn wsX0_changeTable wsX5_isPlace := goodIn_r _ [4] (by decide +kernel) (by decide +kernel)
set_option maxRecDepth 20000 in
theorem gX0_changeTable_X5_isPlace_n46 : GoodIn wsX0_changeTable (wsX5_isPlace) := ggX0_changeTable_X5_isPlace
theorem dX0_changeTable_0 : decode cX0_changeTable 0 = .ok (.iload_n 1, 1) := by decide +kernel
theorem dX0_changeTable_1 : decode cX0_changeTable 1 = .ok (.invokestatic 46, 3) := by decide +kernel
theorem dX0_changeTable_4 : decode cX0_changeTable 4 = .ok (.ifCond .eq 10, 3) := by decide +kernel
theorem dX0_changeTable_7 : decode cX0_changeTable 7 = .ok (.aload_n 0, 1) := by decide +kernel
theorem dX0_changeTable_8 : decode cX0_changeTable 8 = .ok (.getfield 9, 3) := by decide +kernel
theorem dX0_changeTable_11 : decode cX0_changeTable 11 = .ok (.iload_n 1, 1) := by decide +kernel
theorem dX0_changeTable_12 : decode cX0_changeTable 12 = .ok (.iload_n 2, 1) := by decide +kernel
theorem dX0_changeTable_13 : decode cX0_changeTable 13 = .ok (.iastore, 1) := by decide +kernel
theorem dX0_changeTable_14 : decode cX0_changeTable 14 = .ok (.return_, 1) := by decide +kernel
set_option maxRecDepth 20000 in
theorem ggX0_sourceOf_X5_isWire : GoodIn wsX0_sourceOf wsX5_isWire := goodIn_r _ [4] (by decide +kernel) (by decide +kernel)
set_option maxRecDepth 20000 in
theorem gX0_sourceOf_X5_isWire_n50 : GoodIn wsX0_sourceOf (wsX5_isWire) := ggX0_sourceOf_X5_isWire
theorem dX0_sourceOf_0 : decode cX0_sourceOf 0 = .ok (.iload_n 1, 1) := by decide +kernel
theorem dX0_sourceOf_1 : decode cX0_sourceOf 1 = .ok (.invokestatic 50, 3) := by decide +kernel
theorem dX0_sourceOf_4 : decode cX0_sourceOf 4 = .ok (.ifCond .eq 12, 3) := by decide +kernel
theorem dX0_sourceOf_7 : decode cX0_sourceOf 7 = .ok (.aload_n 0, 1) := by decide +kernel
theorem dX0_sourceOf_8 : decode cX0_sourceOf 8 = .ok (.getfield 15, 3) := by decide +kernel
theorem dX0_sourceOf_11 : decode cX0_sourceOf 11 = .ok (.iload_n 1, 1) := by decide +kernel
theorem dX0_sourceOf_12 : decode cX0_sourceOf 12 = .ok (.iaload, 1) := by decide +kernel
theorem dX0_sourceOf_13 : decode cX0_sourceOf 13 = .ok (.goto 5, 3) := by decide +kernel
theorem dX0_sourceOf_16 : decode cX0_sourceOf 16 = .ok (.bipush 32, 2) := by decide +kernel
theorem dX0_sourceOf_18 : decode cX0_sourceOf 18 = .ok (.ireturn, 1) := by decide +kernel
set_option maxRecDepth 20000 in
theorem ggX0_changeSource_X5_isWire : GoodIn wsX0_changeSource wsX5_isWire := goodIn_r _ [4] (by decide +kernel) (by decide +kernel)
set_option maxRecDepth 20000 in
theorem gX0_changeSource_X5_isWire_n50 : GoodIn wsX0_changeSource (wsX5_isWire) := ggX0_changeSource_X5_isWire
theorem dX0_changeSource_0 : decode cX0_changeSource 0 = .ok (.iload_n 1, 1) := by decide +kernel
theorem dX0_changeSource_1 : decode cX0_changeSource 1 = .ok (.invokestatic 50, 3) := by decide +kernel
theorem dX0_changeSource_4 : decode cX0_changeSource 4 = .ok (.ifCond .eq 10, 3) := by decide +kernel
theorem dX0_changeSource_7 : decode cX0_changeSource 7 = .ok (.aload_n 0, 1) := by decide +kernel
theorem dX0_changeSource_8 : decode cX0_changeSource 8 = .ok (.getfield 15, 3) := by decide +kernel
theorem dX0_changeSource_11 : decode cX0_changeSource 11 = .ok (.iload_n 1, 1) := by decide +kernel
theorem dX0_changeSource_12 : decode cX0_changeSource 12 = .ok (.iload_n 2, 1) := by decide +kernel
theorem dX0_changeSource_13 : decode cX0_changeSource 13 = .ok (.iastore, 1) := by decide +kernel
theorem dX0_changeSource_14 : decode cX0_changeSource 14 = .ok (.return_, 1) := by decide +kernel
set_option maxRecDepth 20000 in
theorem ggX0_isSource_X0_hasCell : GoodIn wsX0_isSource wsX0_hasCell := goodIn_r _ [5, 6, 7, 8, 9, 10, 11, 12, 13, 14, 15, 16] (by decide +kernel) (by decide +kernel)
set_option maxRecDepth 20000 in
theorem gX0_isSource_X0_hasCell : GoodIn wsX0_isSource (wsV RX0 53 RX0 yX0_hasCell wsX0_hasCell) := goodIn_app (goodIn_of _ (by decide +kernel)) ggX0_isSource_X0_hasCell
theorem dX0_isSource_0 : decode cX0_isSource 0 = .ok (.aload_n 0, 1) := by decide +kernel
theorem dX0_isSource_1 : decode cX0_isSource 1 = .ok (.iload_n 1, 1) := by decide +kernel
theorem dX0_isSource_2 : decode cX0_isSource 2 = .ok (.invokevirtual 53, 3) := by decide +kernel
theorem dX0_isSource_5 : decode cX0_isSource 5 = .ok (.ifCond .ne 15, 3) := by decide +kernel
theorem dX0_isSource_8 : decode cX0_isSource 8 = .ok (.iload_n 1, 1) := by decide +kernel
theorem dX0_isSource_9 : decode cX0_isSource 9 = .ok (.bipush 24, 2) := by decide +kernel
theorem dX0_isSource_11 : decode cX0_isSource 11 = .ok (.if_icmp .lt 13, 3) := by decide +kernel
theorem dX0_isSource_14 : decode cX0_isSource 14 = .ok (.iload_n 1, 1) := by decide +kernel
theorem dX0_isSource_15 : decode cX0_isSource 15 = .ok (.bipush 33, 2) := by decide +kernel
theorem dX0_isSource_17 : decode cX0_isSource 17 = .ok (.if_icmp .gt 7, 3) := by decide +kernel
theorem dX0_isSource_20 : decode cX0_isSource 20 = .ok (.iconst 1, 1) := by decide +kernel
theorem dX0_isSource_21 : decode cX0_isSource 21 = .ok (.goto 4, 3) := by decide +kernel
theorem dX0_isSource_24 : decode cX0_isSource 24 = .ok (.iconst 0, 1) := by decide +kernel
theorem dX0_isSource_25 : decode cX0_isSource 25 = .ok (.ireturn, 1) := by decide +kernel
set_option maxRecDepth 20000 in
theorem ggX0_hasAllSources_X0_isSource : GoodIn wsX0_hasAllSources wsX0_isSource := goodIn_r _ [6, 7, 8, 9, 5, 10, 11, 12, 13, 14, 15, 16, 17, 18, 19, 20, 21] (by decide +kernel) (by decide +kernel)
set_option maxRecDepth 20000 in
theorem gX0_hasAllSources_X0_isSource : GoodIn wsX0_hasAllSources (wsV RX0 56 RX0 yX0_isSource wsX0_isSource) := goodIn_app (goodIn_of _ (by decide +kernel)) ggX0_hasAllSources_X0_isSource
theorem dX0_hasAllSources_0 : decode cX0_hasAllSources 0 = .ok (.iconst 0, 1) := by decide +kernel
theorem dX0_hasAllSources_1 : decode cX0_hasAllSources 1 = .ok (.istore_n 1, 1) := by decide +kernel
theorem dX0_hasAllSources_2 : decode cX0_hasAllSources 2 = .ok (.iload_n 1, 1) := by decide +kernel
theorem dX0_hasAllSources_3 : decode cX0_hasAllSources 3 = .ok (.bipush 72, 2) := by decide +kernel
theorem dX0_hasAllSources_5 : decode cX0_hasAllSources 5 = .ok (.if_icmp .ge 24, 3) := by decide +kernel
theorem dX0_hasAllSources_8 : decode cX0_hasAllSources 8 = .ok (.aload_n 0, 1) := by decide +kernel
theorem dX0_hasAllSources_9 : decode cX0_hasAllSources 9 = .ok (.aload_n 0, 1) := by decide +kernel
theorem dX0_hasAllSources_10 : decode cX0_hasAllSources 10 = .ok (.getfield 15, 3) := by decide +kernel
theorem dX0_hasAllSources_13 : decode cX0_hasAllSources 13 = .ok (.iload_n 1, 1) := by decide +kernel
theorem dX0_hasAllSources_14 : decode cX0_hasAllSources 14 = .ok (.iaload, 1) := by decide +kernel
theorem dX0_hasAllSources_15 : decode cX0_hasAllSources 15 = .ok (.invokevirtual 56, 3) := by decide +kernel
theorem dX0_hasAllSources_18 : decode cX0_hasAllSources 18 = .ok (.ifCond .ne 5, 3) := by decide +kernel
theorem dX0_hasAllSources_21 : decode cX0_hasAllSources 21 = .ok (.iconst 0, 1) := by decide +kernel
theorem dX0_hasAllSources_22 : decode cX0_hasAllSources 22 = .ok (.ireturn, 1) := by decide +kernel
theorem dX0_hasAllSources_23 : decode cX0_hasAllSources 23 = .ok (.iinc 1 1, 3) := by decide +kernel
theorem dX0_hasAllSources_26 : decode cX0_hasAllSources 26 = .ok (.goto (-24), 3) := by decide +kernel
theorem dX0_hasAllSources_29 : decode cX0_hasAllSources 29 = .ok (.iconst 1, 1) := by decide +kernel
theorem dX0_hasAllSources_30 : decode cX0_hasAllSources 30 = .ok (.ireturn, 1) := by decide +kernel
set_option maxRecDepth 20000 in
theorem ggX0_removeCell_X0_removeWire : GoodIn wsX0_removeCell wsX0_removeWire := goodIn_r _ [5, 6, 7, 8, 9, 10, 4, 11, 12, 13, 14, 15, 16, 17, 18, 19, 20, 21, 22, 23, 24, 25, 26, 27, 28, 29, 30, 31, 32, 33, 34, 35, 45, 46, 47, 48, 49, 50, 51] (by decide +kernel) (by decide +kernel)
set_option maxRecDepth 20000 in
theorem gX0_removeCell_X0_removeWire : GoodIn wsX0_removeCell (wsV RX0 59 RX0 yX0_removeWire wsX0_removeWire) := goodIn_app (goodIn_of _ (by decide +kernel)) ggX0_removeCell_X0_removeWire
set_option maxRecDepth 20000 in
theorem ggX0_removeCell_X0_changeSource : GoodIn wsX0_removeCell wsX0_changeSource := goodIn_r _ [39, 24, 12, 13, 14, 45, 46, 47, 48, 49, 50, 51] (by decide +kernel) (by decide +kernel)
set_option maxRecDepth 20000 in
theorem gX0_removeCell_X0_changeSource : GoodIn wsX0_removeCell (wsV RX0 63 RX0 yX0_changeSource wsX0_changeSource) := goodIn_app (goodIn_of _ (by decide +kernel)) ggX0_removeCell_X0_changeSource
set_option maxRecDepth 20000 in
theorem ggX0_removeCell_X0_changeTable : GoodIn wsX0_removeCell wsX0_changeTable := goodIn_r _ [43, 44, 31, 13, 32, 45, 46, 47, 48, 49, 50, 51] (by decide +kernel) (by decide +kernel)
set_option maxRecDepth 20000 in
theorem gX0_removeCell_X0_changeTable : GoodIn wsX0_removeCell (wsV RX0 67 RX0 yX0_changeTable wsX0_changeTable) := goodIn_app (goodIn_of _ (by decide +kernel)) ggX0_removeCell_X0_changeTable
theorem dX0_removeCell_0 : decode cX0_removeCell 0 = .ok (.iconst 0, 1) := by decide +kernel
theorem dX0_removeCell_1 : decode cX0_removeCell 1 = .ok (.istore_n 2, 1) := by decide +kernel
theorem dX0_removeCell_2 : decode cX0_removeCell 2 = .ok (.iload_n 2, 1) := by decide +kernel
theorem dX0_removeCell_3 : decode cX0_removeCell 3 = .ok (.iconst 3, 1) := by decide +kernel
theorem dX0_removeCell_4 : decode cX0_removeCell 4 = .ok (.if_icmp .ge 29, 3) := by decide +kernel
theorem dX0_removeCell_7 : decode cX0_removeCell 7 = .ok (.aload_n 0, 1) := by decide +kernel
theorem dX0_removeCell_8 : decode cX0_removeCell 8 = .ok (.iload_n 1, 1) := by decide +kernel
theorem dX0_removeCell_9 : decode cX0_removeCell 9 = .ok (.iconst 3, 1) := by decide +kernel
theorem dX0_removeCell_10 : decode cX0_removeCell 10 = .ok (.imul, 1) := by decide +kernel
theorem dX0_removeCell_11 : decode cX0_removeCell 11 = .ok (.iload_n 2, 1) := by decide +kernel
theorem dX0_removeCell_12 : decode cX0_removeCell 12 = .ok (.iadd, 1) := by decide +kernel
theorem dX0_removeCell_13 : decode cX0_removeCell 13 = .ok (.invokevirtual 59, 3) := by decide +kernel
theorem dX0_removeCell_16 : decode cX0_removeCell 16 = .ok (.aload_n 0, 1) := by decide +kernel
theorem dX0_removeCell_17 : decode cX0_removeCell 17 = .ok (.iload_n 1, 1) := by decide +kernel
theorem dX0_removeCell_18 : decode cX0_removeCell 18 = .ok (.iconst 3, 1) := by decide +kernel
theorem dX0_removeCell_19 : decode cX0_removeCell 19 = .ok (.imul, 1) := by decide +kernel
theorem dX0_removeCell_20 : decode cX0_removeCell 20 = .ok (.iload_n 2, 1) := by decide +kernel
theorem dX0_removeCell_21 : decode cX0_removeCell 21 = .ok (.iadd, 1) := by decide +kernel
theorem dX0_removeCell_22 : decode cX0_removeCell 22 = .ok (.bipush 32, 2) := by decide +kernel
theorem dX0_removeCell_24 : decode cX0_removeCell 24 = .ok (.invokevirtual 63, 3) := by decide +kernel
theorem dX0_removeCell_27 : decode cX0_removeCell 27 = .ok (.iinc 2 1, 3) := by decide +kernel
theorem dX0_removeCell_30 : decode cX0_removeCell 30 = .ok (.goto (-28), 3) := by decide +kernel
theorem dX0_removeCell_33 : decode cX0_removeCell 33 = .ok (.aload_n 0, 1) := by decide +kernel
theorem dX0_removeCell_34 : decode cX0_removeCell 34 = .ok (.iload_n 1, 1) := by decide +kernel
theorem dX0_removeCell_35 : decode cX0_removeCell 35 = .ok (.iconst (-1), 1) := by decide +kernel
theorem dX0_removeCell_36 : decode cX0_removeCell 36 = .ok (.invokevirtual 67, 3) := by decide +kernel
theorem dX0_removeCell_39 : decode cX0_removeCell 39 = .ok (.return_, 1) := by decide +kernel
set_option maxRecDepth 20000 in
theorem ggX0_removeAllCells_X0_removeAllWires : GoodIn wsX0_removeAllCells wsX0_removeAllWires := goodIn_r _ [7, 8, 9, 10, 11, 12, 13, 14, 15, 16, 17, 18, 19, 20] (by decide +kernel) (by decide +kernel)
set_option maxRecDepth 20000 in
theorem gX0_removeAllCells_X0_removeAllWires : GoodIn wsX0_removeAllCells (wsV RX0 70 RX0 yX0_removeAllWires wsX0_removeAllWires) := goodIn_app (goodIn_of _ (by decide +kernel)) ggX0_removeAllCells_X0_removeAllWires
set_option maxRecDepth 20000 in
theorem ggX0_removeAllCells_J7_fill_53178 : GoodIn wsX0_removeAllCells wsJ7_fill_53178 := goodIn_r _ [13] (by decide +kernel) (by decide +kernel)
set_option maxRecDepth 20000 in
theorem gX0_removeAllCells_J7_fill_53178 : GoodIn wsX0_removeAllCells (va_wsS RX0 34 yJ7_fill_53178 wsJ7_fill_53178) := goodIn_app (goodIn_of _ (by decide +kernel)) ggX0_removeAllCells_J7_fill_53178
theorem dX0_removeAllCells_0 : decode cX0_removeAllCells 0 = .ok (.aload_n 0, 1) := by decide +kernel
theorem dX0_removeAllCells_1 : decode cX0_removeAllCells 1 = .ok (.invokevirtual 70, 3) := by decide +kernel
theorem dX0_removeAllCells_4 : decode cX0_removeAllCells 4 = .ok (.aload_n 0, 1) := by decide +kernel
theorem dX0_removeAllCells_5 : decode cX0_removeAllCells 5 = .ok (.getfield 9, 3) := by decide +kernel
theorem dX0_removeAllCells_8 : decode cX0_removeAllCells 8 = .ok (.iconst (-1), 1) := by decide +kernel
theorem dX0_removeAllCells_9 : decode cX0_removeAllCells 9 = .ok (.invokestatic 34, 3) := by decide +kernel
theorem dX0_removeAllCells_12 : decode cX0_removeAllCells 12 = .ok (.aload_n 0, 1) := by decide +kernel
theorem dX0_removeAllCells_13 : decode cX0_removeAllCells 13 = .ok (.getfield 15, 3) := by decide +kernel
theorem dX0_removeAllCells_16 : decode cX0_removeAllCells 16 = .ok (.bipush 32, 2) := by decide +kernel
theorem dX0_removeAllCells_18 : decode cX0_removeAllCells 18 = .ok (.invokestatic 34, 3) := by decide +kernel
theorem dX0_removeAllCells_21 : decode cX0_removeAllCells 21 = .ok (.return_, 1) := by decide +kernel
set_option maxRecDepth 20000 in
theorem ggX0_cells_X0_hasCell : GoodIn wsX0_cells wsX0_hasCell := goodIn_r _ [5, 6, 7, 8, 9, 10, 11, 12, 13, 14, 15, 16] (by decide +kernel) (by decide +kernel)
set_option maxRecDepth 20000 in
theorem gX0_cells_X0_hasCell : GoodIn wsX0_cells (wsV RX0 53 RX0 yX0_hasCell wsX0_hasCell) := goodIn_app (goodIn_of _ (by decide +kernel)) ggX0_cells_X0_hasCell
theorem dX0_cells_0 : decode cX0_cells 0 = .ok (.iconst 0, 1) := by decide +kernel
theorem dX0_cells_1 : decode cX0_cells 1 = .ok (.istore_n 1, 1) := by decide +kernel
theorem dX0_cells_2 : decode cX0_cells 2 = .ok (.iconst 0, 1) := by decide +kernel
theorem dX0_cells_3 : decode cX0_cells 3 = .ok (.istore_n 2, 1) := by decide +kernel
theorem dX0_cells_4 : decode cX0_cells 4 = .ok (.iload_n 2, 1) := by decide +kernel
theorem dX0_cells_5 : decode cX0_cells 5 = .ok (.bipush 24, 2) := by decide +kernel
theorem dX0_cells_7 : decode cX0_cells 7 = .ok (.if_icmp .ge 25, 3) := by decide +kernel
theorem dX0_cells_10 : decode cX0_cells 10 = .ok (.iload_n 1, 1) := by decide +kernel
theorem dX0_cells_11 : decode cX0_cells 11 = .ok (.aload_n 0, 1) := by decide +kernel
theorem dX0_cells_12 : decode cX0_cells 12 = .ok (.iload_n 2, 1) := by decide +kernel
theorem dX0_cells_13 : decode cX0_cells 13 = .ok (.invokevirtual 53, 3) := by decide +kernel
theorem dX0_cells_16 : decode cX0_cells 16 = .ok (.ifCond .eq 7, 3) := by decide +kernel
theorem dX0_cells_19 : decode cX0_cells 19 = .ok (.iconst 1, 1) := by decide +kernel
theorem dX0_cells_20 : decode cX0_cells 20 = .ok (.goto 4, 3) := by decide +kernel
theorem dX0_cells_23 : decode cX0_cells 23 = .ok (.iconst 0, 1) := by decide +kernel
theorem dX0_cells_24 : decode cX0_cells 24 = .ok (.iadd, 1) := by decide +kernel
theorem dX0_cells_25 : decode cX0_cells 25 = .ok (.istore_n 1, 1) := by decide +kernel
theorem dX0_cells_26 : decode cX0_cells 26 = .ok (.iinc 2 1, 3) := by decide +kernel
theorem dX0_cells_29 : decode cX0_cells 29 = .ok (.goto (-25), 3) := by decide +kernel
theorem dX0_cells_32 : decode cX0_cells 32 = .ok (.iload_n 1, 1) := by decide +kernel
theorem dX0_cells_33 : decode cX0_cells 33 = .ok (.ireturn, 1) := by decide +kernel
theorem dX0_uses_0 : decode cX0_uses 0 = .ok (.iconst 0, 1) := by decide +kernel
theorem dX0_uses_1 : decode cX0_uses 1 = .ok (.istore_n 2, 1) := by decide +kernel
theorem dX0_uses_2 : decode cX0_uses 2 = .ok (.iconst 0, 1) := by decide +kernel
theorem dX0_uses_3 : decode cX0_uses 3 = .ok (.istore_n 3, 1) := by decide +kernel
theorem dX0_uses_4 : decode cX0_uses 4 = .ok (.iload_n 3, 1) := by decide +kernel
theorem dX0_uses_5 : decode cX0_uses 5 = .ok (.bipush 72, 2) := by decide +kernel
theorem dX0_uses_7 : decode cX0_uses 7 = .ok (.if_icmp .ge 27, 3) := by decide +kernel
theorem dX0_uses_10 : decode cX0_uses 10 = .ok (.iload_n 2, 1) := by decide +kernel
theorem dX0_uses_11 : decode cX0_uses 11 = .ok (.aload_n 0, 1) := by decide +kernel
theorem dX0_uses_12 : decode cX0_uses 12 = .ok (.getfield 15, 3) := by decide +kernel
theorem dX0_uses_15 : decode cX0_uses 15 = .ok (.iload_n 3, 1) := by decide +kernel
theorem dX0_uses_16 : decode cX0_uses 16 = .ok (.iaload, 1) := by decide +kernel
theorem dX0_uses_17 : decode cX0_uses 17 = .ok (.iload_n 1, 1) := by decide +kernel
theorem dX0_uses_18 : decode cX0_uses 18 = .ok (.if_icmp .ne 7, 3) := by decide +kernel
theorem dX0_uses_21 : decode cX0_uses 21 = .ok (.iconst 1, 1) := by decide +kernel
theorem dX0_uses_22 : decode cX0_uses 22 = .ok (.goto 4, 3) := by decide +kernel
theorem dX0_uses_25 : decode cX0_uses 25 = .ok (.iconst 0, 1) := by decide +kernel
theorem dX0_uses_26 : decode cX0_uses 26 = .ok (.iadd, 1) := by decide +kernel
theorem dX0_uses_27 : decode cX0_uses 27 = .ok (.istore_n 2, 1) := by decide +kernel
theorem dX0_uses_28 : decode cX0_uses 28 = .ok (.iinc 3 1, 3) := by decide +kernel
theorem dX0_uses_31 : decode cX0_uses 31 = .ok (.goto (-27), 3) := by decide +kernel
theorem dX0_uses_34 : decode cX0_uses 34 = .ok (.iload_n 2, 1) := by decide +kernel
theorem dX0_uses_35 : decode cX0_uses 35 = .ok (.ireturn, 1) := by decide +kernel
set_option maxRecDepth 20000 in
theorem ggX0_usesByOthers_X0_uses : GoodIn wsX0_usesByOthers wsX0_uses := goodIn_r _ [5, 6, 14, 15, 16, 17, 18, 19, 20] (by decide +kernel) (by decide +kernel)
set_option maxRecDepth 20000 in
theorem gX0_usesByOthers_X0_uses : GoodIn wsX0_usesByOthers (wsV RX0 73 RX0 yX0_uses wsX0_uses) := goodIn_app (goodIn_of _ (by decide +kernel)) ggX0_usesByOthers_X0_uses
set_option maxRecDepth 20000 in
theorem ggX0_usesByOthers_X0_sourceOf : GoodIn wsX0_usesByOthers wsX0_sourceOf := goodIn_r _ [10, 6, 11, 12, 13, 14, 15, 16, 17, 18, 19, 20] (by decide +kernel) (by decide +kernel)
set_option maxRecDepth 20000 in
theorem gX0_usesByOthers_X0_sourceOf : GoodIn wsX0_usesByOthers (wsV RX0 77 RX0 yX0_sourceOf wsX0_sourceOf) := goodIn_app (goodIn_of _ (by decide +kernel)) ggX0_usesByOthers_X0_sourceOf
theorem dX0_usesByOthers_0 : decode cX0_usesByOthers 0 = .ok (.aload_n 0, 1) := by decide +kernel
theorem dX0_usesByOthers_1 : decode cX0_usesByOthers 1 = .ok (.iload_n 1, 1) := by decide +kernel
theorem dX0_usesByOthers_2 : decode cX0_usesByOthers 2 = .ok (.invokevirtual 73, 3) := by decide +kernel
theorem dX0_usesByOthers_5 : decode cX0_usesByOthers 5 = .ok (.istore_n 2, 1) := by decide +kernel
theorem dX0_usesByOthers_6 : decode cX0_usesByOthers 6 = .ok (.iconst 0, 1) := by decide +kernel
theorem dX0_usesByOthers_7 : decode cX0_usesByOthers 7 = .ok (.istore_n 3, 1) := by decide +kernel
theorem dX0_usesByOthers_8 : decode cX0_usesByOthers 8 = .ok (.iload_n 3, 1) := by decide +kernel
theorem dX0_usesByOthers_9 : decode cX0_usesByOthers 9 = .ok (.iconst 3, 1) := by decide +kernel
theorem dX0_usesByOthers_10 : decode cX0_usesByOthers 10 = .ok (.if_icmp .ge 30, 3) := by decide +kernel
theorem dX0_usesByOthers_13 : decode cX0_usesByOthers 13 = .ok (.iload_n 2, 1) := by decide +kernel
theorem dX0_usesByOthers_14 : decode cX0_usesByOthers 14 = .ok (.aload_n 0, 1) := by decide +kernel
theorem dX0_usesByOthers_15 : decode cX0_usesByOthers 15 = .ok (.iload_n 1, 1) := by decide +kernel
theorem dX0_usesByOthers_16 : decode cX0_usesByOthers 16 = .ok (.iconst 3, 1) := by decide +kernel
theorem dX0_usesByOthers_17 : decode cX0_usesByOthers 17 = .ok (.imul, 1) := by decide +kernel
theorem dX0_usesByOthers_18 : decode cX0_usesByOthers 18 = .ok (.iload_n 3, 1) := by decide +kernel
theorem dX0_usesByOthers_19 : decode cX0_usesByOthers 19 = .ok (.iadd, 1) := by decide +kernel
theorem dX0_usesByOthers_20 : decode cX0_usesByOthers 20 = .ok (.invokevirtual 77, 3) := by decide +kernel
theorem dX0_usesByOthers_23 : decode cX0_usesByOthers 23 = .ok (.iload_n 1, 1) := by decide +kernel
theorem dX0_usesByOthers_24 : decode cX0_usesByOthers 24 = .ok (.if_icmp .ne 7, 3) := by decide +kernel
theorem dX0_usesByOthers_27 : decode cX0_usesByOthers 27 = .ok (.iconst 1, 1) := by decide +kernel
theorem dX0_usesByOthers_28 : decode cX0_usesByOthers 28 = .ok (.goto 4, 3) := by decide +kernel
theorem dX0_usesByOthers_31 : decode cX0_usesByOthers 31 = .ok (.iconst 0, 1) := by decide +kernel
theorem dX0_usesByOthers_32 : decode cX0_usesByOthers 32 = .ok (.isub, 1) := by decide +kernel
theorem dX0_usesByOthers_33 : decode cX0_usesByOthers 33 = .ok (.istore_n 2, 1) := by decide +kernel
theorem dX0_usesByOthers_34 : decode cX0_usesByOthers 34 = .ok (.iinc 3 1, 3) := by decide +kernel
theorem dX0_usesByOthers_37 : decode cX0_usesByOthers 37 = .ok (.goto (-29), 3) := by decide +kernel
theorem dX0_usesByOthers_40 : decode cX0_usesByOthers 40 = .ok (.iload_n 2, 1) := by decide +kernel
theorem dX0_usesByOthers_41 : decode cX0_usesByOthers 41 = .ok (.ireturn, 1) := by decide +kernel
set_option maxRecDepth 20000 in
theorem ggX0_exchange_X0_tableOf : GoodIn wsX0_exchange wsX0_tableOf := goodIn_r _ [6, 7, 8, 9, 10, 25, 26, 27, 28, 29, 30, 31] (by decide +kernel) (by decide +kernel)
set_option maxRecDepth 20000 in
theorem gX0_exchange_X0_tableOf : GoodIn wsX0_exchange (wsV RX0 80 RX0 yX0_tableOf wsX0_tableOf) := goodIn_app (goodIn_of _ (by decide +kernel)) ggX0_exchange_X0_tableOf
set_option maxRecDepth 20000 in
theorem ggX0_exchange_X0_changeTable : GoodIn wsX0_exchange wsX0_changeTable := goodIn_r _ [14, 7, 8, 9, 10, 25, 26, 27, 28, 29, 30, 31] (by decide +kernel) (by decide +kernel)
set_option maxRecDepth 20000 in
theorem gX0_exchange_X0_changeTable : GoodIn wsX0_exchange (wsV RX0 67 RX0 yX0_changeTable wsX0_changeTable) := goodIn_app (goodIn_of _ (by decide +kernel)) ggX0_exchange_X0_changeTable
set_option maxRecDepth 20000 in
theorem ggX0_exchange_X0_sourceOf : GoodIn wsX0_exchange wsX0_sourceOf := goodIn_r _ [18, 1, 19, 9, 20, 25, 26, 27, 28, 29, 30, 31] (by decide +kernel) (by decide +kernel)
set_option maxRecDepth 20000 in
theorem gX0_exchange_X0_sourceOf : GoodIn wsX0_exchange (wsV RX0 77 RX0 yX0_sourceOf wsX0_sourceOf) := goodIn_app (goodIn_of _ (by decide +kernel)) ggX0_exchange_X0_sourceOf
set_option maxRecDepth 20000 in
theorem ggX0_exchange_X0_changeSource : GoodIn wsX0_exchange wsX0_changeSource := goodIn_r _ [24, 1, 19, 9, 20, 25, 26, 27, 28, 29, 30, 31] (by decide +kernel) (by decide +kernel)
set_option maxRecDepth 20000 in
theorem gX0_exchange_X0_changeSource : GoodIn wsX0_exchange (wsV RX0 63 RX0 yX0_changeSource wsX0_changeSource) := goodIn_app (goodIn_of _ (by decide +kernel)) ggX0_exchange_X0_changeSource
theorem dX0_exchange_0 : decode cX0_exchange 0 = .ok (.aload_n 0, 1) := by decide +kernel
theorem dX0_exchange_1 : decode cX0_exchange 1 = .ok (.iload_n 1, 1) := by decide +kernel
theorem dX0_exchange_2 : decode cX0_exchange 2 = .ok (.invokevirtual 80, 3) := by decide +kernel
theorem dX0_exchange_5 : decode cX0_exchange 5 = .ok (.istore_n 3, 1) := by decide +kernel
theorem dX0_exchange_6 : decode cX0_exchange 6 = .ok (.aload_n 0, 1) := by decide +kernel
theorem dX0_exchange_7 : decode cX0_exchange 7 = .ok (.iload_n 1, 1) := by decide +kernel
theorem dX0_exchange_8 : decode cX0_exchange 8 = .ok (.aload_n 0, 1) := by decide +kernel
theorem dX0_exchange_9 : decode cX0_exchange 9 = .ok (.iload_n 2, 1) := by decide +kernel
theorem dX0_exchange_10 : decode cX0_exchange 10 = .ok (.invokevirtual 80, 3) := by decide +kernel
theorem dX0_exchange_13 : decode cX0_exchange 13 = .ok (.invokevirtual 67, 3) := by decide +kernel
theorem dX0_exchange_16 : decode cX0_exchange 16 = .ok (.aload_n 0, 1) := by decide +kernel
theorem dX0_exchange_17 : decode cX0_exchange 17 = .ok (.iload_n 2, 1) := by decide +kernel
theorem dX0_exchange_18 : decode cX0_exchange 18 = .ok (.iload_n 3, 1) := by decide +kernel
theorem dX0_exchange_19 : decode cX0_exchange 19 = .ok (.invokevirtual 67, 3) := by decide +kernel
theorem dX0_exchange_22 : decode cX0_exchange 22 = .ok (.iconst 0, 1) := by decide +kernel
theorem dX0_exchange_23 : decode cX0_exchange 23 = .ok (.istore 4, 2) := by decide +kernel
theorem dX0_exchange_25 : decode cX0_exchange 25 = .ok (.iload 4, 2) := by decide +kernel
theorem dX0_exchange_27 : decode cX0_exchange 27 = .ok (.iconst 3, 1) := by decide +kernel
theorem dX0_exchange_28 : decode cX0_exchange 28 = .ok (.if_icmp .ge 53, 3) := by decide +kernel
theorem dX0_exchange_31 : decode cX0_exchange 31 = .ok (.aload_n 0, 1) := by decide +kernel
theorem dX0_exchange_32 : decode cX0_exchange 32 = .ok (.iload_n 1, 1) := by decide +kernel
theorem dX0_exchange_33 : decode cX0_exchange 33 = .ok (.iconst 3, 1) := by decide +kernel
theorem dX0_exchange_34 : decode cX0_exchange 34 = .ok (.imul, 1) := by decide +kernel
theorem dX0_exchange_35 : decode cX0_exchange 35 = .ok (.iload 4, 2) := by decide +kernel
theorem dX0_exchange_37 : decode cX0_exchange 37 = .ok (.iadd, 1) := by decide +kernel
theorem dX0_exchange_38 : decode cX0_exchange 38 = .ok (.invokevirtual 77, 3) := by decide +kernel
theorem dX0_exchange_41 : decode cX0_exchange 41 = .ok (.istore 5, 2) := by decide +kernel
theorem dX0_exchange_43 : decode cX0_exchange 43 = .ok (.aload_n 0, 1) := by decide +kernel
theorem dX0_exchange_44 : decode cX0_exchange 44 = .ok (.iload_n 1, 1) := by decide +kernel
theorem dX0_exchange_45 : decode cX0_exchange 45 = .ok (.iconst 3, 1) := by decide +kernel
theorem dX0_exchange_46 : decode cX0_exchange 46 = .ok (.imul, 1) := by decide +kernel
theorem dX0_exchange_47 : decode cX0_exchange 47 = .ok (.iload 4, 2) := by decide +kernel
theorem dX0_exchange_49 : decode cX0_exchange 49 = .ok (.iadd, 1) := by decide +kernel
theorem dX0_exchange_50 : decode cX0_exchange 50 = .ok (.aload_n 0, 1) := by decide +kernel
theorem dX0_exchange_51 : decode cX0_exchange 51 = .ok (.iload_n 2, 1) := by decide +kernel
theorem dX0_exchange_52 : decode cX0_exchange 52 = .ok (.iconst 3, 1) := by decide +kernel
theorem dX0_exchange_53 : decode cX0_exchange 53 = .ok (.imul, 1) := by decide +kernel
theorem dX0_exchange_54 : decode cX0_exchange 54 = .ok (.iload 4, 2) := by decide +kernel
theorem dX0_exchange_56 : decode cX0_exchange 56 = .ok (.iadd, 1) := by decide +kernel
theorem dX0_exchange_57 : decode cX0_exchange 57 = .ok (.invokevirtual 77, 3) := by decide +kernel
theorem dX0_exchange_60 : decode cX0_exchange 60 = .ok (.invokevirtual 63, 3) := by decide +kernel
theorem dX0_exchange_63 : decode cX0_exchange 63 = .ok (.aload_n 0, 1) := by decide +kernel
theorem dX0_exchange_64 : decode cX0_exchange 64 = .ok (.iload_n 2, 1) := by decide +kernel
theorem dX0_exchange_65 : decode cX0_exchange 65 = .ok (.iconst 3, 1) := by decide +kernel
theorem dX0_exchange_66 : decode cX0_exchange 66 = .ok (.imul, 1) := by decide +kernel
theorem dX0_exchange_67 : decode cX0_exchange 67 = .ok (.iload 4, 2) := by decide +kernel
theorem dX0_exchange_69 : decode cX0_exchange 69 = .ok (.iadd, 1) := by decide +kernel
theorem dX0_exchange_70 : decode cX0_exchange 70 = .ok (.iload 5, 2) := by decide +kernel
theorem dX0_exchange_72 : decode cX0_exchange 72 = .ok (.invokevirtual 63, 3) := by decide +kernel
theorem dX0_exchange_75 : decode cX0_exchange 75 = .ok (.iinc 4 1, 3) := by decide +kernel
theorem dX0_exchange_78 : decode cX0_exchange 78 = .ok (.goto (-53), 3) := by decide +kernel
theorem dX0_exchange_81 : decode cX0_exchange 81 = .ok (.iconst 0, 1) := by decide +kernel
theorem dX0_exchange_82 : decode cX0_exchange 82 = .ok (.istore 4, 2) := by decide +kernel
theorem dX0_exchange_84 : decode cX0_exchange 84 = .ok (.iload 4, 2) := by decide +kernel
theorem dX0_exchange_86 : decode cX0_exchange 86 = .ok (.bipush 72, 2) := by decide +kernel
theorem dX0_exchange_88 : decode cX0_exchange 88 = .ok (.if_icmp .ge 50, 3) := by decide +kernel
theorem dX0_exchange_91 : decode cX0_exchange 91 = .ok (.aload_n 0, 1) := by decide +kernel
theorem dX0_exchange_92 : decode cX0_exchange 92 = .ok (.getfield 15, 3) := by decide +kernel
theorem dX0_exchange_95 : decode cX0_exchange 95 = .ok (.iload 4, 2) := by decide +kernel
theorem dX0_exchange_97 : decode cX0_exchange 97 = .ok (.iaload, 1) := by decide +kernel
theorem dX0_exchange_98 : decode cX0_exchange 98 = .ok (.iload_n 1, 1) := by decide +kernel
theorem dX0_exchange_99 : decode cX0_exchange 99 = .ok (.if_icmp .ne 14, 3) := by decide +kernel
theorem dX0_exchange_102 : decode cX0_exchange 102 = .ok (.aload_n 0, 1) := by decide +kernel
theorem dX0_exchange_103 : decode cX0_exchange 103 = .ok (.getfield 15, 3) := by decide +kernel
theorem dX0_exchange_106 : decode cX0_exchange 106 = .ok (.iload 4, 2) := by decide +kernel
theorem dX0_exchange_108 : decode cX0_exchange 108 = .ok (.iload_n 2, 1) := by decide +kernel
theorem dX0_exchange_109 : decode cX0_exchange 109 = .ok (.iastore, 1) := by decide +kernel
theorem dX0_exchange_110 : decode cX0_exchange 110 = .ok (.goto 22, 3) := by decide +kernel
theorem dX0_exchange_113 : decode cX0_exchange 113 = .ok (.aload_n 0, 1) := by decide +kernel
theorem dX0_exchange_114 : decode cX0_exchange 114 = .ok (.getfield 15, 3) := by decide +kernel
theorem dX0_exchange_117 : decode cX0_exchange 117 = .ok (.iload 4, 2) := by decide +kernel
theorem dX0_exchange_119 : decode cX0_exchange 119 = .ok (.iaload, 1) := by decide +kernel
theorem dX0_exchange_120 : decode cX0_exchange 120 = .ok (.iload_n 2, 1) := by decide +kernel
theorem dX0_exchange_121 : decode cX0_exchange 121 = .ok (.if_icmp .ne 11, 3) := by decide +kernel
theorem dX0_exchange_124 : decode cX0_exchange 124 = .ok (.aload_n 0, 1) := by decide +kernel
theorem dX0_exchange_125 : decode cX0_exchange 125 = .ok (.getfield 15, 3) := by decide +kernel
theorem dX0_exchange_128 : decode cX0_exchange 128 = .ok (.iload 4, 2) := by decide +kernel
theorem dX0_exchange_130 : decode cX0_exchange 130 = .ok (.iload_n 1, 1) := by decide +kernel
theorem dX0_exchange_131 : decode cX0_exchange 131 = .ok (.iastore, 1) := by decide +kernel
theorem dX0_exchange_132 : decode cX0_exchange 132 = .ok (.iinc 4 1, 3) := by decide +kernel
theorem dX0_exchange_135 : decode cX0_exchange 135 = .ok (.goto (-51), 3) := by decide +kernel
theorem dX0_exchange_138 : decode cX0_exchange 138 = .ok (.return_, 1) := by decide +kernel
set_option maxRecDepth 20000 in
theorem ggX0_wires_X5_junctionOf : GoodIn wsX0_wires wsX5_junctionOf := goodIn_r _ [4] (by decide +kernel) (by decide +kernel)
set_option maxRecDepth 20000 in
theorem gX0_wires_X5_junctionOf_n83 : GoodIn wsX0_wires (wsX5_junctionOf) := ggX0_wires_X5_junctionOf
theorem dX0_wires_0 : decode cX0_wires 0 = .ok (.iconst 0, 1) := by decide +kernel
theorem dX0_wires_1 : decode cX0_wires 1 = .ok (.istore_n 1, 1) := by decide +kernel
theorem dX0_wires_2 : decode cX0_wires 2 = .ok (.iconst 0, 1) := by decide +kernel
theorem dX0_wires_3 : decode cX0_wires 3 = .ok (.istore_n 2, 1) := by decide +kernel
theorem dX0_wires_4 : decode cX0_wires 4 = .ok (.iload_n 2, 1) := by decide +kernel
theorem dX0_wires_5 : decode cX0_wires 5 = .ok (.bipush 72, 2) := by decide +kernel
theorem dX0_wires_7 : decode cX0_wires 7 = .ok (.if_icmp .ge 30, 3) := by decide +kernel
theorem dX0_wires_10 : decode cX0_wires 10 = .ok (.iload_n 1, 1) := by decide +kernel
theorem dX0_wires_11 : decode cX0_wires 11 = .ok (.aload_n 0, 1) := by decide +kernel
theorem dX0_wires_12 : decode cX0_wires 12 = .ok (.getfield 15, 3) := by decide +kernel
theorem dX0_wires_15 : decode cX0_wires 15 = .ok (.iload_n 2, 1) := by decide +kernel
theorem dX0_wires_16 : decode cX0_wires 16 = .ok (.iaload, 1) := by decide +kernel
theorem dX0_wires_17 : decode cX0_wires 17 = .ok (.invokestatic 83, 3) := by decide +kernel
theorem dX0_wires_20 : decode cX0_wires 20 = .ok (.iconst (-1), 1) := by decide +kernel
theorem dX0_wires_21 : decode cX0_wires 21 = .ok (.if_icmp .eq 7, 3) := by decide +kernel
theorem dX0_wires_24 : decode cX0_wires 24 = .ok (.iconst 1, 1) := by decide +kernel
theorem dX0_wires_25 : decode cX0_wires 25 = .ok (.goto 4, 3) := by decide +kernel
theorem dX0_wires_28 : decode cX0_wires 28 = .ok (.iconst 0, 1) := by decide +kernel
theorem dX0_wires_29 : decode cX0_wires 29 = .ok (.iadd, 1) := by decide +kernel
theorem dX0_wires_30 : decode cX0_wires 30 = .ok (.istore_n 1, 1) := by decide +kernel
theorem dX0_wires_31 : decode cX0_wires 31 = .ok (.iinc 2 1, 3) := by decide +kernel
theorem dX0_wires_34 : decode cX0_wires 34 = .ok (.goto (-30), 3) := by decide +kernel
theorem dX0_wires_37 : decode cX0_wires 37 = .ok (.iload_n 1, 1) := by decide +kernel
theorem dX0_wires_38 : decode cX0_wires 38 = .ok (.ireturn, 1) := by decide +kernel
set_option maxRecDepth 20000 in
theorem ggX0_lengthOf_X5_isWire : GoodIn wsX0_lengthOf wsX5_isWire := goodIn_r _ [4] (by decide +kernel) (by decide +kernel)
set_option maxRecDepth 20000 in
theorem gX0_lengthOf_X5_isWire_n50 : GoodIn wsX0_lengthOf (wsX5_isWire) := ggX0_lengthOf_X5_isWire
theorem dX0_lengthOf_0 : decode cX0_lengthOf 0 = .ok (.iload_n 1, 1) := by decide +kernel
theorem dX0_lengthOf_1 : decode cX0_lengthOf 1 = .ok (.invokestatic 50, 3) := by decide +kernel
theorem dX0_lengthOf_4 : decode cX0_lengthOf 4 = .ok (.ifCond .eq 12, 3) := by decide +kernel
theorem dX0_lengthOf_7 : decode cX0_lengthOf 7 = .ok (.aload_n 0, 1) := by decide +kernel
theorem dX0_lengthOf_8 : decode cX0_lengthOf 8 = .ok (.getfield 18, 3) := by decide +kernel
theorem dX0_lengthOf_11 : decode cX0_lengthOf 11 = .ok (.iload_n 1, 1) := by decide +kernel
theorem dX0_lengthOf_12 : decode cX0_lengthOf 12 = .ok (.iaload, 1) := by decide +kernel
theorem dX0_lengthOf_13 : decode cX0_lengthOf 13 = .ok (.goto 4, 3) := by decide +kernel
theorem dX0_lengthOf_16 : decode cX0_lengthOf 16 = .ok (.iconst 0, 1) := by decide +kernel
theorem dX0_lengthOf_17 : decode cX0_lengthOf 17 = .ok (.ireturn, 1) := by decide +kernel
set_option maxRecDepth 20000 in
theorem ggX0_segmentsOfCell_X0_lengthOf : GoodIn wsX0_segmentsOfCell wsX0_lengthOf := goodIn_r _ [5, 6, 7, 8, 9, 10, 11, 12, 13, 14, 15, 16] (by decide +kernel) (by decide +kernel)
set_option maxRecDepth 20000 in
theorem gX0_segmentsOfCell_X0_lengthOf : GoodIn wsX0_segmentsOfCell (wsV RX0 86 RX0 yX0_lengthOf wsX0_lengthOf) := goodIn_app (goodIn_of _ (by decide +kernel)) ggX0_segmentsOfCell_X0_lengthOf
theorem dX0_segmentsOfCell_0 : decode cX0_segmentsOfCell 0 = .ok (.iconst 0, 1) := by decide +kernel
theorem dX0_segmentsOfCell_1 : decode cX0_segmentsOfCell 1 = .ok (.istore_n 2, 1) := by decide +kernel
theorem dX0_segmentsOfCell_2 : decode cX0_segmentsOfCell 2 = .ok (.iconst 0, 1) := by decide +kernel
theorem dX0_segmentsOfCell_3 : decode cX0_segmentsOfCell 3 = .ok (.istore_n 3, 1) := by decide +kernel
theorem dX0_segmentsOfCell_4 : decode cX0_segmentsOfCell 4 = .ok (.iload_n 3, 1) := by decide +kernel
theorem dX0_segmentsOfCell_5 : decode cX0_segmentsOfCell 5 = .ok (.iconst 3, 1) := by decide +kernel
theorem dX0_segmentsOfCell_6 : decode cX0_segmentsOfCell 6 = .ok (.if_icmp .ge 21, 3) := by decide +kernel
theorem dX0_segmentsOfCell_9 : decode cX0_segmentsOfCell 9 = .ok (.iload_n 2, 1) := by decide +kernel
theorem dX0_segmentsOfCell_10 : decode cX0_segmentsOfCell 10 = .ok (.aload_n 0, 1) := by decide +kernel
theorem dX0_segmentsOfCell_11 : decode cX0_segmentsOfCell 11 = .ok (.iload_n 1, 1) := by decide +kernel
theorem dX0_segmentsOfCell_12 : decode cX0_segmentsOfCell 12 = .ok (.iconst 3, 1) := by decide +kernel
theorem dX0_segmentsOfCell_13 : decode cX0_segmentsOfCell 13 = .ok (.imul, 1) := by decide +kernel
theorem dX0_segmentsOfCell_14 : decode cX0_segmentsOfCell 14 = .ok (.iload_n 3, 1) := by decide +kernel
theorem dX0_segmentsOfCell_15 : decode cX0_segmentsOfCell 15 = .ok (.iadd, 1) := by decide +kernel
theorem dX0_segmentsOfCell_16 : decode cX0_segmentsOfCell 16 = .ok (.invokevirtual 86, 3) := by decide +kernel
theorem dX0_segmentsOfCell_19 : decode cX0_segmentsOfCell 19 = .ok (.iadd, 1) := by decide +kernel
theorem dX0_segmentsOfCell_20 : decode cX0_segmentsOfCell 20 = .ok (.istore_n 2, 1) := by decide +kernel
theorem dX0_segmentsOfCell_21 : decode cX0_segmentsOfCell 21 = .ok (.iinc 3 1, 3) := by decide +kernel
theorem dX0_segmentsOfCell_24 : decode cX0_segmentsOfCell 24 = .ok (.goto (-20), 3) := by decide +kernel
theorem dX0_segmentsOfCell_27 : decode cX0_segmentsOfCell 27 = .ok (.iload_n 2, 1) := by decide +kernel
theorem dX0_segmentsOfCell_28 : decode cX0_segmentsOfCell 28 = .ok (.ireturn, 1) := by decide +kernel
theorem dX0_segmentsOfAll_0 : decode cX0_segmentsOfAll 0 = .ok (.iconst 0, 1) := by decide +kernel
theorem dX0_segmentsOfAll_1 : decode cX0_segmentsOfAll 1 = .ok (.istore_n 1, 1) := by decide +kernel
theorem dX0_segmentsOfAll_2 : decode cX0_segmentsOfAll 2 = .ok (.iconst 0, 1) := by decide +kernel
theorem dX0_segmentsOfAll_3 : decode cX0_segmentsOfAll 3 = .ok (.istore_n 2, 1) := by decide +kernel
theorem dX0_segmentsOfAll_4 : decode cX0_segmentsOfAll 4 = .ok (.iload_n 2, 1) := by decide +kernel
theorem dX0_segmentsOfAll_5 : decode cX0_segmentsOfAll 5 = .ok (.bipush 72, 2) := by decide +kernel
theorem dX0_segmentsOfAll_7 : decode cX0_segmentsOfAll 7 = .ok (.if_icmp .ge 18, 3) := by decide +kernel
theorem dX0_segmentsOfAll_10 : decode cX0_segmentsOfAll 10 = .ok (.iload_n 1, 1) := by decide +kernel
theorem dX0_segmentsOfAll_11 : decode cX0_segmentsOfAll 11 = .ok (.aload_n 0, 1) := by decide +kernel
theorem dX0_segmentsOfAll_12 : decode cX0_segmentsOfAll 12 = .ok (.getfield 18, 3) := by decide +kernel
theorem dX0_segmentsOfAll_15 : decode cX0_segmentsOfAll 15 = .ok (.iload_n 2, 1) := by decide +kernel
theorem dX0_segmentsOfAll_16 : decode cX0_segmentsOfAll 16 = .ok (.iaload, 1) := by decide +kernel
theorem dX0_segmentsOfAll_17 : decode cX0_segmentsOfAll 17 = .ok (.iadd, 1) := by decide +kernel
theorem dX0_segmentsOfAll_18 : decode cX0_segmentsOfAll 18 = .ok (.istore_n 1, 1) := by decide +kernel
theorem dX0_segmentsOfAll_19 : decode cX0_segmentsOfAll 19 = .ok (.iinc 2 1, 3) := by decide +kernel
theorem dX0_segmentsOfAll_22 : decode cX0_segmentsOfAll 22 = .ok (.goto (-18), 3) := by decide +kernel
theorem dX0_segmentsOfAll_25 : decode cX0_segmentsOfAll 25 = .ok (.iload_n 1, 1) := by decide +kernel
theorem dX0_segmentsOfAll_26 : decode cX0_segmentsOfAll 26 = .ok (.ireturn, 1) := by decide +kernel
set_option maxRecDepth 20000 in
theorem ggX0_distanceOf_X0_sourceOf : GoodIn wsX0_distanceOf wsX0_sourceOf := goodIn_r _ [5, 6, 7, 8, 9, 18, 19, 20, 21, 22, 23, 24] (by decide +kernel) (by decide +kernel)
set_option maxRecDepth 20000 in
theorem gX0_distanceOf_X0_sourceOf : GoodIn wsX0_distanceOf (wsV RX0 77 RX0 yX0_sourceOf wsX0_sourceOf) := goodIn_app (goodIn_of _ (by decide +kernel)) ggX0_distanceOf_X0_sourceOf
set_option maxRecDepth 20000 in
theorem ggX0_distanceOf_X5_junctionOf : GoodIn wsX0_distanceOf wsX5_junctionOf := goodIn_r _ [11] (by decide +kernel) (by decide +kernel)
set_option maxRecDepth 20000 in
theorem gX0_distanceOf_X5_junctionOf_n83 : GoodIn wsX0_distanceOf (wsX5_junctionOf) := ggX0_distanceOf_X5_junctionOf
set_option maxRecDepth 20000 in
theorem ggX0_distanceOf_X5_distanceBetween : GoodIn wsX0_distanceOf wsX5_distanceBetween := goodIn_r _ [13, 14, 15, 16, 17] (by decide +kernel) (by decide +kernel)
set_option maxRecDepth 20000 in
theorem gX0_distanceOf_X5_distanceBetween_n89 : GoodIn wsX0_distanceOf (wsX5_distanceBetween) := ggX0_distanceOf_X5_distanceBetween
theorem dX0_distanceOf_0 : decode cX0_distanceOf 0 = .ok (.aload_n 0, 1) := by decide +kernel
theorem dX0_distanceOf_1 : decode cX0_distanceOf 1 = .ok (.iload_n 1, 1) := by decide +kernel
theorem dX0_distanceOf_2 : decode cX0_distanceOf 2 = .ok (.invokevirtual 77, 3) := by decide +kernel
theorem dX0_distanceOf_5 : decode cX0_distanceOf 5 = .ok (.invokestatic 83, 3) := by decide +kernel
theorem dX0_distanceOf_8 : decode cX0_distanceOf 8 = .ok (.istore_n 2, 1) := by decide +kernel
theorem dX0_distanceOf_9 : decode cX0_distanceOf 9 = .ok (.iload_n 2, 1) := by decide +kernel
theorem dX0_distanceOf_10 : decode cX0_distanceOf 10 = .ok (.iconst (-1), 1) := by decide +kernel
theorem dX0_distanceOf_11 : decode cX0_distanceOf 11 = .ok (.if_icmp .ne 7, 3) := by decide +kernel
theorem dX0_distanceOf_14 : decode cX0_distanceOf 14 = .ok (.iconst (-1), 1) := by decide +kernel
theorem dX0_distanceOf_15 : decode cX0_distanceOf 15 = .ok (.goto 10, 3) := by decide +kernel
theorem dX0_distanceOf_18 : decode cX0_distanceOf 18 = .ok (.iload_n 2, 1) := by decide +kernel
theorem dX0_distanceOf_19 : decode cX0_distanceOf 19 = .ok (.iload_n 1, 1) := by decide +kernel
theorem dX0_distanceOf_20 : decode cX0_distanceOf 20 = .ok (.iconst 3, 1) := by decide +kernel
theorem dX0_distanceOf_21 : decode cX0_distanceOf 21 = .ok (.idiv, 1) := by decide +kernel
theorem dX0_distanceOf_22 : decode cX0_distanceOf 22 = .ok (.invokestatic 89, 3) := by decide +kernel
theorem dX0_distanceOf_25 : decode cX0_distanceOf 25 = .ok (.ireturn, 1) := by decide +kernel
set_option maxRecDepth 20000 in
theorem ggX0_junctionAt_X0_sourceOf : GoodIn wsX0_junctionAt wsX0_sourceOf := goodIn_r _ [6, 7, 8, 9, 10, 18, 19, 20, 21, 22, 23, 24] (by decide +kernel) (by decide +kernel)
set_option maxRecDepth 20000 in
theorem gX0_junctionAt_X0_sourceOf : GoodIn wsX0_junctionAt (wsV RX0 77 RX0 yX0_sourceOf wsX0_sourceOf) := goodIn_app (goodIn_of _ (by decide +kernel)) ggX0_junctionAt_X0_sourceOf
set_option maxRecDepth 20000 in
theorem ggX0_junctionAt_X5_junctionOf : GoodIn wsX0_junctionAt wsX5_junctionOf := goodIn_r _ [12] (by decide +kernel) (by decide +kernel)
set_option maxRecDepth 20000 in
theorem gX0_junctionAt_X5_junctionOf_n83 : GoodIn wsX0_junctionAt (wsX5_junctionOf) := ggX0_junctionAt_X5_junctionOf
set_option maxRecDepth 20000 in
theorem ggX0_junctionAt_X0_lengthOf : GoodIn wsX0_junctionAt wsX0_lengthOf := goodIn_r _ [16, 17, 8, 9, 10, 18, 19, 20, 21, 22, 23, 24] (by decide +kernel) (by decide +kernel)
set_option maxRecDepth 20000 in
theorem gX0_junctionAt_X0_lengthOf : GoodIn wsX0_junctionAt (wsV RX0 86 RX0 yX0_lengthOf wsX0_lengthOf) := goodIn_app (goodIn_of _ (by decide +kernel)) ggX0_junctionAt_X0_lengthOf
theorem dX0_junctionAt_0 : decode cX0_junctionAt 0 = .ok (.aload_n 0, 1) := by decide +kernel
theorem dX0_junctionAt_1 : decode cX0_junctionAt 1 = .ok (.iload_n 1, 1) := by decide +kernel
theorem dX0_junctionAt_2 : decode cX0_junctionAt 2 = .ok (.invokevirtual 77, 3) := by decide +kernel
theorem dX0_junctionAt_5 : decode cX0_junctionAt 5 = .ok (.invokestatic 83, 3) := by decide +kernel
theorem dX0_junctionAt_8 : decode cX0_junctionAt 8 = .ok (.iconst (-1), 1) := by decide +kernel
theorem dX0_junctionAt_9 : decode cX0_junctionAt 9 = .ok (.if_icmp .eq 20, 3) := by decide +kernel
theorem dX0_junctionAt_12 : decode cX0_junctionAt 12 = .ok (.iload_n 2, 1) := by decide +kernel
theorem dX0_junctionAt_13 : decode cX0_junctionAt 13 = .ok (.ifCond .lt 16, 3) := by decide +kernel
theorem dX0_junctionAt_16 : decode cX0_junctionAt 16 = .ok (.iload_n 2, 1) := by decide +kernel
theorem dX0_junctionAt_17 : decode cX0_junctionAt 17 = .ok (.aload_n 0, 1) := by decide +kernel
theorem dX0_junctionAt_18 : decode cX0_junctionAt 18 = .ok (.iload_n 1, 1) := by decide +kernel
theorem dX0_junctionAt_19 : decode cX0_junctionAt 19 = .ok (.invokevirtual 86, 3) := by decide +kernel
theorem dX0_junctionAt_22 : decode cX0_junctionAt 22 = .ok (.if_icmp .gt 7, 3) := by decide +kernel
theorem dX0_junctionAt_25 : decode cX0_junctionAt 25 = .ok (.iconst 1, 1) := by decide +kernel
theorem dX0_junctionAt_26 : decode cX0_junctionAt 26 = .ok (.goto 4, 3) := by decide +kernel
theorem dX0_junctionAt_29 : decode cX0_junctionAt 29 = .ok (.iconst 0, 1) := by decide +kernel
theorem dX0_junctionAt_30 : decode cX0_junctionAt 30 = .ok (.istore_n 3, 1) := by decide +kernel
theorem dX0_junctionAt_31 : decode cX0_junctionAt 31 = .ok (.iload_n 3, 1) := by decide +kernel
theorem dX0_junctionAt_32 : decode cX0_junctionAt 32 = .ok (.ifCond .eq 12, 3) := by decide +kernel
theorem dX0_junctionAt_35 : decode cX0_junctionAt 35 = .ok (.iload_n 1, 1) := by decide +kernel
theorem dX0_junctionAt_36 : decode cX0_junctionAt 36 = .ok (.bipush 24, 2) := by decide +kernel
theorem dX0_junctionAt_38 : decode cX0_junctionAt 38 = .ok (.imul, 1) := by decide +kernel
theorem dX0_junctionAt_39 : decode cX0_junctionAt 39 = .ok (.iload_n 2, 1) := by decide +kernel
theorem dX0_junctionAt_40 : decode cX0_junctionAt 40 = .ok (.iadd, 1) := by decide +kernel
theorem dX0_junctionAt_41 : decode cX0_junctionAt 41 = .ok (.goto 4, 3) := by decide +kernel
theorem dX0_junctionAt_44 : decode cX0_junctionAt 44 = .ok (.iconst (-1), 1) := by decide +kernel
theorem dX0_junctionAt_45 : decode cX0_junctionAt 45 = .ok (.istore 4, 2) := by decide +kernel
theorem dX0_junctionAt_47 : decode cX0_junctionAt 47 = .ok (.iload 4, 2) := by decide +kernel
theorem dX0_junctionAt_49 : decode cX0_junctionAt 49 = .ok (.ifCond .lt 23, 3) := by decide +kernel
theorem dX0_junctionAt_52 : decode cX0_junctionAt 52 = .ok (.iload 4, 2) := by decide +kernel
theorem dX0_junctionAt_54 : decode cX0_junctionAt 54 = .ok (.aload_n 0, 1) := by decide +kernel
theorem dX0_junctionAt_55 : decode cX0_junctionAt 55 = .ok (.getfield 21, 3) := by decide +kernel
theorem dX0_junctionAt_58 : decode cX0_junctionAt 58 = .ok (.arraylength, 1) := by decide +kernel
theorem dX0_junctionAt_59 : decode cX0_junctionAt 59 = .ok (.if_icmp .ge 13, 3) := by decide +kernel
theorem dX0_junctionAt_62 : decode cX0_junctionAt 62 = .ok (.aload_n 0, 1) := by decide +kernel
theorem dX0_junctionAt_63 : decode cX0_junctionAt 63 = .ok (.getfield 21, 3) := by decide +kernel
theorem dX0_junctionAt_66 : decode cX0_junctionAt 66 = .ok (.iload 4, 2) := by decide +kernel
theorem dX0_junctionAt_68 : decode cX0_junctionAt 68 = .ok (.iaload, 1) := by decide +kernel
theorem dX0_junctionAt_69 : decode cX0_junctionAt 69 = .ok (.goto 4, 3) := by decide +kernel
theorem dX0_junctionAt_72 : decode cX0_junctionAt 72 = .ok (.iconst (-1), 1) := by decide +kernel
theorem dX0_junctionAt_73 : decode cX0_junctionAt 73 = .ok (.ireturn, 1) := by decide +kernel
set_option maxRecDepth 20000 in
theorem ggX0_startWire_X5_isWire : GoodIn wsX0_startWire wsX5_isWire := goodIn_r _ [5] (by decide +kernel) (by decide +kernel)
set_option maxRecDepth 20000 in
theorem gX0_startWire_X5_isWire_n50 : GoodIn wsX0_startWire (wsX5_isWire) := ggX0_startWire_X5_isWire
theorem dX0_startWire_0 : decode cX0_startWire 0 = .ok (.iload_n 1, 1) := by decide +kernel
theorem dX0_startWire_1 : decode cX0_startWire 1 = .ok (.invokestatic 50, 3) := by decide +kernel
theorem dX0_startWire_4 : decode cX0_startWire 4 = .ok (.ifCond .eq 20, 3) := by decide +kernel
theorem dX0_startWire_7 : decode cX0_startWire 7 = .ok (.aload_n 0, 1) := by decide +kernel
theorem dX0_startWire_8 : decode cX0_startWire 8 = .ok (.getfield 18, 3) := by decide +kernel
theorem dX0_startWire_11 : decode cX0_startWire 11 = .ok (.iload_n 1, 1) := by decide +kernel
theorem dX0_startWire_12 : decode cX0_startWire 12 = .ok (.iconst 0, 1) := by decide +kernel
theorem dX0_startWire_13 : decode cX0_startWire 13 = .ok (.iastore, 1) := by decide +kernel
theorem dX0_startWire_14 : decode cX0_startWire 14 = .ok (.aload_n 0, 1) := by decide +kernel
theorem dX0_startWire_15 : decode cX0_startWire 15 = .ok (.getfield 21, 3) := by decide +kernel
theorem dX0_startWire_18 : decode cX0_startWire 18 = .ok (.iload_n 1, 1) := by decide +kernel
theorem dX0_startWire_19 : decode cX0_startWire 19 = .ok (.bipush 24, 2) := by decide +kernel
theorem dX0_startWire_21 : decode cX0_startWire 21 = .ok (.imul, 1) := by decide +kernel
theorem dX0_startWire_22 : decode cX0_startWire 22 = .ok (.iload_n 2, 1) := by decide +kernel
theorem dX0_startWire_23 : decode cX0_startWire 23 = .ok (.iastore, 1) := by decide +kernel
theorem dX0_startWire_24 : decode cX0_startWire 24 = .ok (.return_, 1) := by decide +kernel
set_option maxRecDepth 20000 in
theorem ggX0_extendWire_X5_isWire : GoodIn wsX0_extendWire wsX5_isWire := goodIn_r _ [6] (by decide +kernel) (by decide +kernel)
set_option maxRecDepth 20000 in
theorem gX0_extendWire_X5_isWire_n50 : GoodIn wsX0_extendWire (wsX5_isWire) := ggX0_extendWire_X5_isWire
set_option maxRecDepth 20000 in
theorem ggX0_extendWire_X5_segmentBetween : GoodIn wsX0_extendWire wsX5_segmentBetween := goodIn_r _ [8, 9, 10, 11, 5, 12, 13, 14, 15] (by decide +kernel) (by decide +kernel)
set_option maxRecDepth 20000 in
theorem gX0_extendWire_X5_segmentBetween_n93 : GoodIn wsX0_extendWire (wsX5_segmentBetween) := ggX0_extendWire_X5_segmentBetween
theorem dX0_extendWire_0 : decode cX0_extendWire 0 = .ok (.iload_n 1, 1) := by decide +kernel
theorem dX0_extendWire_1 : decode cX0_extendWire 1 = .ok (.invokestatic 50, 3) := by decide +kernel
theorem dX0_extendWire_4 : decode cX0_extendWire 4 = .ok (.ifCond .eq 23, 3) := by decide +kernel
theorem dX0_extendWire_7 : decode cX0_extendWire 7 = .ok (.aload_n 0, 1) := by decide +kernel
theorem dX0_extendWire_8 : decode cX0_extendWire 8 = .ok (.getfield 18, 3) := by decide +kernel
theorem dX0_extendWire_11 : decode cX0_extendWire 11 = .ok (.iload_n 1, 1) := by decide +kernel
theorem dX0_extendWire_12 : decode cX0_extendWire 12 = .ok (.iaload, 1) := by decide +kernel
theorem dX0_extendWire_13 : decode cX0_extendWire 13 = .ok (.ifCond .lt 14, 3) := by decide +kernel
theorem dX0_extendWire_16 : decode cX0_extendWire 16 = .ok (.aload_n 0, 1) := by decide +kernel
theorem dX0_extendWire_17 : decode cX0_extendWire 17 = .ok (.getfield 18, 3) := by decide +kernel
theorem dX0_extendWire_20 : decode cX0_extendWire 20 = .ok (.iload_n 1, 1) := by decide +kernel
theorem dX0_extendWire_21 : decode cX0_extendWire 21 = .ok (.iaload, 1) := by decide +kernel
theorem dX0_extendWire_22 : decode cX0_extendWire 22 = .ok (.bipush 23, 2) := by decide +kernel
theorem dX0_extendWire_24 : decode cX0_extendWire 24 = .ok (.if_icmp .lt 4, 3) := by decide +kernel
theorem dX0_extendWire_27 : decode cX0_extendWire 27 = .ok (.return_, 1) := by decide +kernel
theorem dX0_extendWire_28 : decode cX0_extendWire 28 = .ok (.aload_n 0, 1) := by decide +kernel
theorem dX0_extendWire_29 : decode cX0_extendWire 29 = .ok (.getfield 21, 3) := by decide +kernel
theorem dX0_extendWire_32 : decode cX0_extendWire 32 = .ok (.iload_n 1, 1) := by decide +kernel
theorem dX0_extendWire_33 : decode cX0_extendWire 33 = .ok (.bipush 24, 2) := by decide +kernel
theorem dX0_extendWire_35 : decode cX0_extendWire 35 = .ok (.imul, 1) := by decide +kernel
theorem dX0_extendWire_36 : decode cX0_extendWire 36 = .ok (.aload_n 0, 1) := by decide +kernel
theorem dX0_extendWire_37 : decode cX0_extendWire 37 = .ok (.getfield 18, 3) := by decide +kernel
theorem dX0_extendWire_40 : decode cX0_extendWire 40 = .ok (.iload_n 1, 1) := by decide +kernel
theorem dX0_extendWire_41 : decode cX0_extendWire 41 = .ok (.iaload, 1) := by decide +kernel
theorem dX0_extendWire_42 : decode cX0_extendWire 42 = .ok (.iadd, 1) := by decide +kernel
theorem dX0_extendWire_43 : decode cX0_extendWire 43 = .ok (.iaload, 1) := by decide +kernel
theorem dX0_extendWire_44 : decode cX0_extendWire 44 = .ok (.iload_n 2, 1) := by decide +kernel
theorem dX0_extendWire_45 : decode cX0_extendWire 45 = .ok (.invokestatic 93, 3) := by decide +kernel
theorem dX0_extendWire_48 : decode cX0_extendWire 48 = .ok (.istore_n 3, 1) := by decide +kernel
theorem dX0_extendWire_49 : decode cX0_extendWire 49 = .ok (.iload_n 3, 1) := by decide +kernel
theorem dX0_extendWire_50 : decode cX0_extendWire 50 = .ok (.iconst (-1), 1) := by decide +kernel
theorem dX0_extendWire_51 : decode cX0_extendWire 51 = .ok (.if_icmp .ne 4, 3) := by decide +kernel
theorem dX0_extendWire_54 : decode cX0_extendWire 54 = .ok (.return_, 1) := by decide +kernel
theorem dX0_extendWire_55 : decode cX0_extendWire 55 = .ok (.aload_n 0, 1) := by decide +kernel
theorem dX0_extendWire_56 : decode cX0_extendWire 56 = .ok (.getfield 18, 3) := by decide +kernel
theorem dX0_extendWire_59 : decode cX0_extendWire 59 = .ok (.iload_n 1, 1) := by decide +kernel
theorem dX0_extendWire_60 : decode cX0_extendWire 60 = .ok (.dup2, 1) := by decide +kernel
theorem dX0_extendWire_61 : decode cX0_extendWire 61 = .ok (.iaload, 1) := by decide +kernel
theorem dX0_extendWire_62 : decode cX0_extendWire 62 = .ok (.iconst 1, 1) := by decide +kernel
theorem dX0_extendWire_63 : decode cX0_extendWire 63 = .ok (.iadd, 1) := by decide +kernel
theorem dX0_extendWire_64 : decode cX0_extendWire 64 = .ok (.iastore, 1) := by decide +kernel
theorem dX0_extendWire_65 : decode cX0_extendWire 65 = .ok (.aload_n 0, 1) := by decide +kernel
theorem dX0_extendWire_66 : decode cX0_extendWire 66 = .ok (.getfield 21, 3) := by decide +kernel
theorem dX0_extendWire_69 : decode cX0_extendWire 69 = .ok (.iload_n 1, 1) := by decide +kernel
theorem dX0_extendWire_70 : decode cX0_extendWire 70 = .ok (.bipush 24, 2) := by decide +kernel
theorem dX0_extendWire_72 : decode cX0_extendWire 72 = .ok (.imul, 1) := by decide +kernel
theorem dX0_extendWire_73 : decode cX0_extendWire 73 = .ok (.aload_n 0, 1) := by decide +kernel
theorem dX0_extendWire_74 : decode cX0_extendWire 74 = .ok (.getfield 18, 3) := by decide +kernel
theorem dX0_extendWire_77 : decode cX0_extendWire 77 = .ok (.iload_n 1, 1) := by decide +kernel
theorem dX0_extendWire_78 : decode cX0_extendWire 78 = .ok (.iaload, 1) := by decide +kernel
theorem dX0_extendWire_79 : decode cX0_extendWire 79 = .ok (.iadd, 1) := by decide +kernel
theorem dX0_extendWire_80 : decode cX0_extendWire 80 = .ok (.iload_n 2, 1) := by decide +kernel
theorem dX0_extendWire_81 : decode cX0_extendWire 81 = .ok (.iastore, 1) := by decide +kernel
theorem dX0_extendWire_82 : decode cX0_extendWire 82 = .ok (.aload_n 0, 1) := by decide +kernel
theorem dX0_extendWire_83 : decode cX0_extendWire 83 = .ok (.getfield 24, 3) := by decide +kernel
theorem dX0_extendWire_86 : decode cX0_extendWire 86 = .ok (.iload_n 3, 1) := by decide +kernel
theorem dX0_extendWire_87 : decode cX0_extendWire 87 = .ok (.dup2, 1) := by decide +kernel
theorem dX0_extendWire_88 : decode cX0_extendWire 88 = .ok (.iaload, 1) := by decide +kernel
theorem dX0_extendWire_89 : decode cX0_extendWire 89 = .ok (.iconst 1, 1) := by decide +kernel
theorem dX0_extendWire_90 : decode cX0_extendWire 90 = .ok (.iadd, 1) := by decide +kernel
theorem dX0_extendWire_91 : decode cX0_extendWire 91 = .ok (.iastore, 1) := by decide +kernel
theorem dX0_extendWire_92 : decode cX0_extendWire 92 = .ok (.return_, 1) := by decide +kernel
set_option maxRecDepth 20000 in
theorem ggX0_removeWire_X0_lengthOf : GoodIn wsX0_removeWire wsX0_lengthOf := goodIn_r _ [7, 2, 8, 9, 10, 32, 33, 34, 35, 36, 37, 38] (by decide +kernel) (by decide +kernel)
set_option maxRecDepth 20000 in
theorem gX0_removeWire_X0_lengthOf : GoodIn wsX0_removeWire (wsV RX0 86 RX0 yX0_lengthOf wsX0_lengthOf) := goodIn_app (goodIn_of _ (by decide +kernel)) ggX0_removeWire_X0_lengthOf
set_option maxRecDepth 20000 in
theorem ggX0_removeWire_X0_junctionAt : GoodIn wsX0_removeWire wsX0_junctionAt := goodIn_r _ [14, 15, 16, 17, 18, 6, 19, 20, 8, 9, 10, 21, 22, 3, 4, 5, 7, 2, 32, 33, 34, 35, 36, 37, 38] (by decide +kernel) (by decide +kernel)
set_option maxRecDepth 20000 in
theorem gX0_removeWire_X0_junctionAt : GoodIn wsX0_removeWire (wsV RX0 96 RX0 yX0_junctionAt wsX0_junctionAt) := goodIn_app (goodIn_of _ (by decide +kernel)) ggX0_removeWire_X0_junctionAt
set_option maxRecDepth 20000 in
theorem ggX0_removeWire_X5_segmentBetween : GoodIn wsX0_removeWire wsX5_segmentBetween := goodIn_r _ [24, 25, 26, 27, 9, 28, 29, 30, 31] (by decide +kernel) (by decide +kernel)
set_option maxRecDepth 20000 in
theorem gX0_removeWire_X5_segmentBetween_n93 : GoodIn wsX0_removeWire (wsX5_segmentBetween) := ggX0_removeWire_X5_segmentBetween
set_option maxRecDepth 20000 in
theorem ggX0_removeWire_X5_isWire : GoodIn wsX0_removeWire wsX5_isWire := goodIn_r _ [10] (by decide +kernel) (by decide +kernel)
set_option maxRecDepth 20000 in
theorem gX0_removeWire_X5_isWire_n50 : GoodIn wsX0_removeWire (wsX5_isWire) := ggX0_removeWire_X5_isWire
theorem dX0_removeWire_0 : decode cX0_removeWire 0 = .ok (.aload_n 0, 1) := by decide +kernel
theorem dX0_removeWire_1 : decode cX0_removeWire 1 = .ok (.iload_n 1, 1) := by decide +kernel
theorem dX0_removeWire_2 : decode cX0_removeWire 2 = .ok (.invokevirtual 86, 3) := by decide +kernel
theorem dX0_removeWire_5 : decode cX0_removeWire 5 = .ok (.istore_n 2, 1) := by decide +kernel
theorem dX0_removeWire_6 : decode cX0_removeWire 6 = .ok (.iload_n 2, 1) := by decide +kernel
theorem dX0_removeWire_7 : decode cX0_removeWire 7 = .ok (.ifCond .le 42, 3) := by decide +kernel
theorem dX0_removeWire_10 : decode cX0_removeWire 10 = .ok (.aload_n 0, 1) := by decide +kernel
theorem dX0_removeWire_11 : decode cX0_removeWire 11 = .ok (.iload_n 1, 1) := by decide +kernel
theorem dX0_removeWire_12 : decode cX0_removeWire 12 = .ok (.iload_n 2, 1) := by decide +kernel
theorem dX0_removeWire_13 : decode cX0_removeWire 13 = .ok (.iconst 1, 1) := by decide +kernel
theorem dX0_removeWire_14 : decode cX0_removeWire 14 = .ok (.isub, 1) := by decide +kernel
theorem dX0_removeWire_15 : decode cX0_removeWire 15 = .ok (.invokevirtual 96, 3) := by decide +kernel
theorem dX0_removeWire_18 : decode cX0_removeWire 18 = .ok (.aload_n 0, 1) := by decide +kernel
theorem dX0_removeWire_19 : decode cX0_removeWire 19 = .ok (.iload_n 1, 1) := by decide +kernel
theorem dX0_removeWire_20 : decode cX0_removeWire 20 = .ok (.iload_n 2, 1) := by decide +kernel
theorem dX0_removeWire_21 : decode cX0_removeWire 21 = .ok (.invokevirtual 96, 3) := by decide +kernel
theorem dX0_removeWire_24 : decode cX0_removeWire 24 = .ok (.invokestatic 93, 3) := by decide +kernel
theorem dX0_removeWire_27 : decode cX0_removeWire 27 = .ok (.istore_n 3, 1) := by decide +kernel
theorem dX0_removeWire_28 : decode cX0_removeWire 28 = .ok (.iload_n 3, 1) := by decide +kernel
theorem dX0_removeWire_29 : decode cX0_removeWire 29 = .ok (.iconst (-1), 1) := by decide +kernel
theorem dX0_removeWire_30 : decode cX0_removeWire 30 = .ok (.if_icmp .eq 13, 3) := by decide +kernel
theorem dX0_removeWire_33 : decode cX0_removeWire 33 = .ok (.aload_n 0, 1) := by decide +kernel
theorem dX0_removeWire_34 : decode cX0_removeWire 34 = .ok (.getfield 24, 3) := by decide +kernel
theorem dX0_removeWire_37 : decode cX0_removeWire 37 = .ok (.iload_n 3, 1) := by decide +kernel
theorem dX0_removeWire_38 : decode cX0_removeWire 38 = .ok (.dup2, 1) := by decide +kernel
theorem dX0_removeWire_39 : decode cX0_removeWire 39 = .ok (.iaload, 1) := by decide +kernel
theorem dX0_removeWire_40 : decode cX0_removeWire 40 = .ok (.iconst 1, 1) := by decide +kernel
theorem dX0_removeWire_41 : decode cX0_removeWire 41 = .ok (.isub, 1) := by decide +kernel
theorem dX0_removeWire_42 : decode cX0_removeWire 42 = .ok (.iastore, 1) := by decide +kernel
theorem dX0_removeWire_43 : decode cX0_removeWire 43 = .ok (.iinc 2 (-1), 3) := by decide +kernel
theorem dX0_removeWire_46 : decode cX0_removeWire 46 = .ok (.goto (-40), 3) := by decide +kernel
theorem dX0_removeWire_49 : decode cX0_removeWire 49 = .ok (.iload_n 1, 1) := by decide +kernel
theorem dX0_removeWire_50 : decode cX0_removeWire 50 = .ok (.invokestatic 50, 3) := by decide +kernel
theorem dX0_removeWire_53 : decode cX0_removeWire 53 = .ok (.ifCond .eq 10, 3) := by decide +kernel
theorem dX0_removeWire_56 : decode cX0_removeWire 56 = .ok (.aload_n 0, 1) := by decide +kernel
theorem dX0_removeWire_57 : decode cX0_removeWire 57 = .ok (.getfield 18, 3) := by decide +kernel
theorem dX0_removeWire_60 : decode cX0_removeWire 60 = .ok (.iload_n 1, 1) := by decide +kernel
theorem dX0_removeWire_61 : decode cX0_removeWire 61 = .ok (.iconst 0, 1) := by decide +kernel
theorem dX0_removeWire_62 : decode cX0_removeWire 62 = .ok (.iastore, 1) := by decide +kernel
theorem dX0_removeWire_63 : decode cX0_removeWire 63 = .ok (.return_, 1) := by decide +kernel
set_option maxRecDepth 20000 in
theorem ggX0_removeAllWires_J7_fill_53178 : GoodIn wsX0_removeAllWires wsJ7_fill_53178 := goodIn_r _ [6] (by decide +kernel) (by decide +kernel)
set_option maxRecDepth 20000 in
theorem gX0_removeAllWires_J7_fill_53178 : GoodIn wsX0_removeAllWires (va_wsS RX0 34 yJ7_fill_53178 wsJ7_fill_53178) := goodIn_app (goodIn_of _ (by decide +kernel)) ggX0_removeAllWires_J7_fill_53178
theorem dX0_removeAllWires_0 : decode cX0_removeAllWires 0 = .ok (.aload_n 0, 1) := by decide +kernel
theorem dX0_removeAllWires_1 : decode cX0_removeAllWires 1 = .ok (.getfield 18, 3) := by decide +kernel
theorem dX0_removeAllWires_4 : decode cX0_removeAllWires 4 = .ok (.iconst 0, 1) := by decide +kernel
theorem dX0_removeAllWires_5 : decode cX0_removeAllWires 5 = .ok (.invokestatic 34, 3) := by decide +kernel
theorem dX0_removeAllWires_8 : decode cX0_removeAllWires 8 = .ok (.aload_n 0, 1) := by decide +kernel
theorem dX0_removeAllWires_9 : decode cX0_removeAllWires 9 = .ok (.getfield 24, 3) := by decide +kernel
theorem dX0_removeAllWires_12 : decode cX0_removeAllWires 12 = .ok (.iconst 0, 1) := by decide +kernel
theorem dX0_removeAllWires_13 : decode cX0_removeAllWires 13 = .ok (.invokestatic 34, 3) := by decide +kernel
theorem dX0_removeAllWires_16 : decode cX0_removeAllWires 16 = .ok (.return_, 1) := by decide +kernel
theorem dX0_heldBy_0 : decode cX0_heldBy 0 = .ok (.iload_n 1, 1) := by decide +kernel
theorem dX0_heldBy_1 : decode cX0_heldBy 1 = .ok (.ifCond .lt 18, 3) := by decide +kernel
theorem dX0_heldBy_4 : decode cX0_heldBy 4 = .ok (.iload_n 1, 1) := by decide +kernel
theorem dX0_heldBy_5 : decode cX0_heldBy 5 = .ok (.bipush 48, 2) := by decide +kernel
theorem dX0_heldBy_7 : decode cX0_heldBy 7 = .ok (.if_icmp .ge 12, 3) := by decide +kernel
theorem dX0_heldBy_10 : decode cX0_heldBy 10 = .ok (.aload_n 0, 1) := by decide +kernel
theorem dX0_heldBy_11 : decode cX0_heldBy 11 = .ok (.getfield 24, 3) := by decide +kernel
theorem dX0_heldBy_14 : decode cX0_heldBy 14 = .ok (.iload_n 1, 1) := by decide +kernel
theorem dX0_heldBy_15 : decode cX0_heldBy 15 = .ok (.iaload, 1) := by decide +kernel
theorem dX0_heldBy_16 : decode cX0_heldBy 16 = .ok (.goto 4, 3) := by decide +kernel
theorem dX0_heldBy_19 : decode cX0_heldBy 19 = .ok (.iconst 0, 1) := by decide +kernel
theorem dX0_heldBy_20 : decode cX0_heldBy 20 = .ok (.ireturn, 1) := by decide +kernel
theorem dX0_priceOf_0 : decode cX0_priceOf 0 = .ok (.iload_n 1, 1) := by decide +kernel
theorem dX0_priceOf_1 : decode cX0_priceOf 1 = .ok (.ifCond .lt 22, 3) := by decide +kernel
theorem dX0_priceOf_4 : decode cX0_priceOf 4 = .ok (.iload_n 1, 1) := by decide +kernel
theorem dX0_priceOf_5 : decode cX0_priceOf 5 = .ok (.bipush 48, 2) := by decide +kernel
theorem dX0_priceOf_7 : decode cX0_priceOf 7 = .ok (.if_icmp .ge 16, 3) := by decide +kernel
theorem dX0_priceOf_10 : decode cX0_priceOf 10 = .ok (.aload_n 0, 1) := by decide +kernel
theorem dX0_priceOf_11 : decode cX0_priceOf 11 = .ok (.getfield 24, 3) := by decide +kernel
theorem dX0_priceOf_14 : decode cX0_priceOf 14 = .ok (.iload_n 1, 1) := by decide +kernel
theorem dX0_priceOf_15 : decode cX0_priceOf 15 = .ok (.iaload, 1) := by decide +kernel
theorem dX0_priceOf_16 : decode cX0_priceOf 16 = .ok (.aload_n 0, 1) := by decide +kernel
theorem dX0_priceOf_17 : decode cX0_priceOf 17 = .ok (.getfield 27, 3) := by decide +kernel
theorem dX0_priceOf_20 : decode cX0_priceOf 20 = .ok (.if_icmp .lt 6, 3) := by decide +kernel
theorem dX0_priceOf_23 : decode cX0_priceOf 23 = .ok (.ldc 99, 2) := by decide +kernel
theorem dX0_priceOf_25 : decode cX0_priceOf 25 = .ok (.ireturn, 1) := by decide +kernel
theorem dX0_priceOf_26 : decode cX0_priceOf 26 = .ok (.iconst 1, 1) := by decide +kernel
theorem dX0_priceOf_27 : decode cX0_priceOf 27 = .ok (.aload_n 0, 1) := by decide +kernel
theorem dX0_priceOf_28 : decode cX0_priceOf 28 = .ok (.getfield 31, 3) := by decide +kernel
theorem dX0_priceOf_31 : decode cX0_priceOf 31 = .ok (.aload_n 0, 1) := by decide +kernel
theorem dX0_priceOf_32 : decode cX0_priceOf 32 = .ok (.getfield 24, 3) := by decide +kernel
theorem dX0_priceOf_35 : decode cX0_priceOf 35 = .ok (.iload_n 1, 1) := by decide +kernel
theorem dX0_priceOf_36 : decode cX0_priceOf 36 = .ok (.iaload, 1) := by decide +kernel
theorem dX0_priceOf_37 : decode cX0_priceOf 37 = .ok (.imul, 1) := by decide +kernel
theorem dX0_priceOf_38 : decode cX0_priceOf 38 = .ok (.iadd, 1) := by decide +kernel
theorem dX0_priceOf_39 : decode cX0_priceOf 39 = .ok (.ireturn, 1) := by decide +kernel
theorem dX0_fullSegments_0 : decode cX0_fullSegments 0 = .ok (.iconst 0, 1) := by decide +kernel
theorem dX0_fullSegments_1 : decode cX0_fullSegments 1 = .ok (.istore_n 1, 1) := by decide +kernel
theorem dX0_fullSegments_2 : decode cX0_fullSegments 2 = .ok (.iconst 0, 1) := by decide +kernel
theorem dX0_fullSegments_3 : decode cX0_fullSegments 3 = .ok (.istore_n 2, 1) := by decide +kernel
theorem dX0_fullSegments_4 : decode cX0_fullSegments 4 = .ok (.iload_n 2, 1) := by decide +kernel
theorem dX0_fullSegments_5 : decode cX0_fullSegments 5 = .ok (.bipush 48, 2) := by decide +kernel
theorem dX0_fullSegments_7 : decode cX0_fullSegments 7 = .ok (.if_icmp .ge 30, 3) := by decide +kernel
theorem dX0_fullSegments_10 : decode cX0_fullSegments 10 = .ok (.iload_n 1, 1) := by decide +kernel
theorem dX0_fullSegments_11 : decode cX0_fullSegments 11 = .ok (.aload_n 0, 1) := by decide +kernel
theorem dX0_fullSegments_12 : decode cX0_fullSegments 12 = .ok (.getfield 24, 3) := by decide +kernel
theorem dX0_fullSegments_15 : decode cX0_fullSegments 15 = .ok (.iload_n 2, 1) := by decide +kernel
theorem dX0_fullSegments_16 : decode cX0_fullSegments 16 = .ok (.iaload, 1) := by decide +kernel
theorem dX0_fullSegments_17 : decode cX0_fullSegments 17 = .ok (.aload_n 0, 1) := by decide +kernel
theorem dX0_fullSegments_18 : decode cX0_fullSegments 18 = .ok (.getfield 27, 3) := by decide +kernel
theorem dX0_fullSegments_21 : decode cX0_fullSegments 21 = .ok (.if_icmp .lt 7, 3) := by decide +kernel
theorem dX0_fullSegments_24 : decode cX0_fullSegments 24 = .ok (.iconst 1, 1) := by decide +kernel
theorem dX0_fullSegments_25 : decode cX0_fullSegments 25 = .ok (.goto 4, 3) := by decide +kernel
theorem dX0_fullSegments_28 : decode cX0_fullSegments 28 = .ok (.iconst 0, 1) := by decide +kernel
theorem dX0_fullSegments_29 : decode cX0_fullSegments 29 = .ok (.iadd, 1) := by decide +kernel
theorem dX0_fullSegments_30 : decode cX0_fullSegments 30 = .ok (.istore_n 1, 1) := by decide +kernel
theorem dX0_fullSegments_31 : decode cX0_fullSegments 31 = .ok (.iinc 2 1, 3) := by decide +kernel
theorem dX0_fullSegments_34 : decode cX0_fullSegments 34 = .ok (.goto (-30), 3) := by decide +kernel
theorem dX0_fullSegments_37 : decode cX0_fullSegments 37 = .ok (.iload_n 1, 1) := by decide +kernel
theorem dX0_fullSegments_38 : decode cX0_fullSegments 38 = .ok (.ireturn, 1) := by decide +kernel
theorem dX0_mostHeld_0 : decode cX0_mostHeld 0 = .ok (.iconst 0, 1) := by decide +kernel
theorem dX0_mostHeld_1 : decode cX0_mostHeld 1 = .ok (.istore_n 1, 1) := by decide +kernel
theorem dX0_mostHeld_2 : decode cX0_mostHeld 2 = .ok (.iconst 0, 1) := by decide +kernel
theorem dX0_mostHeld_3 : decode cX0_mostHeld 3 = .ok (.istore_n 2, 1) := by decide +kernel
theorem dX0_mostHeld_4 : decode cX0_mostHeld 4 = .ok (.iload_n 2, 1) := by decide +kernel
theorem dX0_mostHeld_5 : decode cX0_mostHeld 5 = .ok (.bipush 48, 2) := by decide +kernel
theorem dX0_mostHeld_7 : decode cX0_mostHeld 7 = .ok (.if_icmp .ge 20, 3) := by decide +kernel
theorem dX0_mostHeld_10 : decode cX0_mostHeld 10 = .ok (.iload_n 1, 1) := by decide +kernel
theorem dX0_mostHeld_11 : decode cX0_mostHeld 11 = .ok (.aload_n 0, 1) := by decide +kernel
theorem dX0_mostHeld_12 : decode cX0_mostHeld 12 = .ok (.getfield 24, 3) := by decide +kernel
theorem dX0_mostHeld_15 : decode cX0_mostHeld 15 = .ok (.iload_n 2, 1) := by decide +kernel
theorem dX0_mostHeld_16 : decode cX0_mostHeld 16 = .ok (.iaload, 1) := by decide +kernel
theorem dX0_mostHeld_17 : decode cX0_mostHeld 17 = .ok (.invokestatic 100, 3) := by decide +kernel
theorem dX0_mostHeld_20 : decode cX0_mostHeld 20 = .ok (.istore_n 1, 1) := by decide +kernel
theorem dX0_mostHeld_21 : decode cX0_mostHeld 21 = .ok (.iinc 2 1, 3) := by decide +kernel
theorem dX0_mostHeld_24 : decode cX0_mostHeld 24 = .ok (.goto (-20), 3) := by decide +kernel
theorem dX0_mostHeld_27 : decode cX0_mostHeld 27 = .ok (.iload_n 1, 1) := by decide +kernel
theorem dX0_mostHeld_28 : decode cX0_mostHeld 28 = .ok (.ireturn, 1) := by decide +kernel
theorem dX0_setting_0 : decode cX0_setting 0 = .ok (.iload_n 1, 1) := by decide +kernel
theorem dX0_setting_1 : decode cX0_setting 1 = .ok (.ifCond .ne 10, 3) := by decide +kernel
theorem dX0_setting_4 : decode cX0_setting 4 = .ok (.aload_n 0, 1) := by decide +kernel
theorem dX0_setting_5 : decode cX0_setting 5 = .ok (.getfield 27, 3) := by decide +kernel
theorem dX0_setting_8 : decode cX0_setting 8 = .ok (.goto 7, 3) := by decide +kernel
theorem dX0_setting_11 : decode cX0_setting 11 = .ok (.aload_n 0, 1) := by decide +kernel
theorem dX0_setting_12 : decode cX0_setting 12 = .ok (.getfield 31, 3) := by decide +kernel
theorem dX0_setting_15 : decode cX0_setting 15 = .ok (.ireturn, 1) := by decide +kernel
theorem dX0_changeSetting_0 : decode cX0_changeSetting 0 = .ok (.iload_n 1, 1) := by decide +kernel
theorem dX0_changeSetting_1 : decode cX0_changeSetting 1 = .ok (.ifCond .ne 11, 3) := by decide +kernel
theorem dX0_changeSetting_4 : decode cX0_changeSetting 4 = .ok (.aload_n 0, 1) := by decide +kernel
theorem dX0_changeSetting_5 : decode cX0_changeSetting 5 = .ok (.iload_n 2, 1) := by decide +kernel
theorem dX0_changeSetting_6 : decode cX0_changeSetting 6 = .ok (.putfield 27, 3) := by decide +kernel
theorem dX0_changeSetting_9 : decode cX0_changeSetting 9 = .ok (.goto 8, 3) := by decide +kernel
theorem dX0_changeSetting_12 : decode cX0_changeSetting 12 = .ok (.aload_n 0, 1) := by decide +kernel
theorem dX0_changeSetting_13 : decode cX0_changeSetting 13 = .ok (.iload_n 2, 1) := by decide +kernel
theorem dX0_changeSetting_14 : decode cX0_changeSetting 14 = .ok (.putfield 31, 3) := by decide +kernel
theorem dX0_changeSetting_17 : decode cX0_changeSetting 17 = .ok (.return_, 1) := by decide +kernel
end
section
set_option maxRecDepth 20000 in
theorem ggX1_init_X0_init : GoodIn wsX1_init wsX0_init := goodIn_r _ [11, 12, 2, 3, 13, 14, 15, 16, 17, 18, 19, 20, 21, 22, 23, 24, 27, 28, 29, 30, 31, 32, 33] (by decide +kernel) (by decide +kernel)
set_option maxRecDepth 20000 in
theorem gX1_init_X0_init : GoodIn wsX1_init (wsX0_init) := ggX1_init_X0_init
theorem dX1_init_0 : decode cX1_init 0 = .ok (.aload_n 0, 1) := by decide +kernel
theorem dX1_init_1 : decode cX1_init 1 = .ok (.invokespecial 3, 3) := by decide +kernel
theorem dX1_init_4 : decode cX1_init 4 = .ok (.aload_n 0, 1) := by decide +kernel
theorem dX1_init_5 : decode cX1_init 5 = .ok (.iconst 4, 1) := by decide +kernel
theorem dX1_init_6 : decode cX1_init 6 = .ok (.anewarray 9, 3) := by decide +kernel
theorem dX1_init_9 : decode cX1_init 9 = .ok (.putfield 11, 3) := by decide +kernel
theorem dX1_init_12 : decode cX1_init 12 = .ok (.aload_n 0, 1) := by decide +kernel
theorem dX1_init_13 : decode cX1_init 13 = .ok (.iconst 0, 1) := by decide +kernel
theorem dX1_init_14 : decode cX1_init 14 = .ok (.putfield 17, 3) := by decide +kernel
theorem dX1_init_17 : decode cX1_init 17 = .ok (.iconst 0, 1) := by decide +kernel
theorem dX1_init_18 : decode cX1_init 18 = .ok (.istore_n 1, 1) := by decide +kernel
theorem dX1_init_19 : decode cX1_init 19 = .ok (.iload_n 1, 1) := by decide +kernel
theorem dX1_init_20 : decode cX1_init 20 = .ok (.iconst 4, 1) := by decide +kernel
theorem dX1_init_21 : decode cX1_init 21 = .ok (.if_icmp .ge 22, 3) := by decide +kernel
theorem dX1_init_24 : decode cX1_init 24 = .ok (.aload_n 0, 1) := by decide +kernel
theorem dX1_init_25 : decode cX1_init 25 = .ok (.getfield 11, 3) := by decide +kernel
theorem dX1_init_28 : decode cX1_init 28 = .ok (.iload_n 1, 1) := by decide +kernel
theorem dX1_init_29 : decode cX1_init 29 = .ok (.new 9, 3) := by decide +kernel
theorem dX1_init_32 : decode cX1_init 32 = .ok (.dup, 1) := by decide +kernel
theorem dX1_init_33 : decode cX1_init 33 = .ok (.invokespecial 21, 3) := by decide +kernel
theorem dX1_init_36 : decode cX1_init 36 = .ok (.aastore, 1) := by decide +kernel
theorem dX1_init_37 : decode cX1_init 37 = .ok (.iinc 1 1, 3) := by decide +kernel
theorem dX1_init_40 : decode cX1_init 40 = .ok (.goto (-21), 3) := by decide +kernel
theorem dX1_init_43 : decode cX1_init 43 = .ok (.return_, 1) := by decide +kernel
theorem dX1_size_0 : decode cX1_size 0 = .ok (.aload_n 0, 1) := by decide +kernel
theorem dX1_size_1 : decode cX1_size 1 = .ok (.getfield 17, 3) := by decide +kernel
theorem dX1_size_4 : decode cX1_size 4 = .ok (.ireturn, 1) := by decide +kernel
set_option maxRecDepth 20000 in
theorem ggX1_remember_X1_dropOldest : GoodIn wsX1_remember wsX1_dropOldest := goodIn_r _ [6, 7, 1, 28, 29] (by decide +kernel) (by decide +kernel)
set_option maxRecDepth 20000 in
theorem gX1_remember_X1_dropOldest : GoodIn wsX1_remember (wsV RX1 22 RX1 yX1_dropOldest wsX1_dropOldest) := goodIn_app (goodIn_of _ (by decide +kernel)) ggX1_remember_X1_dropOldest
set_option maxRecDepth 20000 in
theorem ggX1_remember_X1_stateAt : GoodIn wsX1_remember wsX1_stateAt := goodIn_r _ [11, 7, 28, 29] (by decide +kernel) (by decide +kernel)
set_option maxRecDepth 20000 in
theorem gX1_remember_X1_stateAt : GoodIn wsX1_remember (wsV RX1 25 RX1 yX1_stateAt wsX1_stateAt) := goodIn_app (goodIn_of _ (by decide +kernel)) ggX1_remember_X1_stateAt
set_option maxRecDepth 20000 in
theorem ggX1_remember_X0_copyFrom : GoodIn wsX1_remember wsX0_copyFrom := goodIn_r _ [16, 17, 18, 19, 20, 21, 22, 23, 24, 25, 26, 27, 30, 31, 32, 33, 34, 35, 36] (by decide +kernel) (by decide +kernel)
set_option maxRecDepth 20000 in
theorem gX1_remember_X0_copyFrom : GoodIn wsX1_remember (wsV RX1 29 RX0 yX0_copyFrom wsX0_copyFrom) := goodIn_app (goodIn_of _ (by decide +kernel)) ggX1_remember_X0_copyFrom
theorem dX1_remember_0 : decode cX1_remember 0 = .ok (.aload_n 0, 1) := by decide +kernel
theorem dX1_remember_1 : decode cX1_remember 1 = .ok (.getfield 17, 3) := by decide +kernel
theorem dX1_remember_4 : decode cX1_remember 4 = .ok (.iconst 4, 1) := by decide +kernel
theorem dX1_remember_5 : decode cX1_remember 5 = .ok (.if_icmp .lt 7, 3) := by decide +kernel
theorem dX1_remember_8 : decode cX1_remember 8 = .ok (.aload_n 0, 1) := by decide +kernel
theorem dX1_remember_9 : decode cX1_remember 9 = .ok (.invokevirtual 22, 3) := by decide +kernel
theorem dX1_remember_12 : decode cX1_remember 12 = .ok (.aload_n 0, 1) := by decide +kernel
theorem dX1_remember_13 : decode cX1_remember 13 = .ok (.aload_n 0, 1) := by decide +kernel
theorem dX1_remember_14 : decode cX1_remember 14 = .ok (.getfield 17, 3) := by decide +kernel
theorem dX1_remember_17 : decode cX1_remember 17 = .ok (.invokevirtual 25, 3) := by decide +kernel
theorem dX1_remember_20 : decode cX1_remember 20 = .ok (.astore_n 2, 1) := by decide +kernel
theorem dX1_remember_21 : decode cX1_remember 21 = .ok (.aload_n 2, 1) := by decide +kernel
theorem dX1_remember_22 : decode cX1_remember 22 = .ok (.ifnull 18, 3) := by decide +kernel
theorem dX1_remember_25 : decode cX1_remember 25 = .ok (.aload_n 2, 1) := by decide +kernel
theorem dX1_remember_26 : decode cX1_remember 26 = .ok (.aload_n 1, 1) := by decide +kernel
theorem dX1_remember_27 : decode cX1_remember 27 = .ok (.invokevirtual 29, 3) := by decide +kernel
theorem dX1_remember_30 : decode cX1_remember 30 = .ok (.aload_n 0, 1) := by decide +kernel
theorem dX1_remember_31 : decode cX1_remember 31 = .ok (.dup, 1) := by decide +kernel
theorem dX1_remember_32 : decode cX1_remember 32 = .ok (.getfield 17, 3) := by decide +kernel
theorem dX1_remember_35 : decode cX1_remember 35 = .ok (.iconst 1, 1) := by decide +kernel
theorem dX1_remember_36 : decode cX1_remember 36 = .ok (.iadd, 1) := by decide +kernel
theorem dX1_remember_37 : decode cX1_remember 37 = .ok (.putfield 17, 3) := by decide +kernel
theorem dX1_remember_40 : decode cX1_remember 40 = .ok (.return_, 1) := by decide +kernel
set_option maxRecDepth 20000 in
theorem ggX1_bringBack_X1_stateAt : GoodIn wsX1_bringBack wsX1_stateAt := goodIn_r _ [6, 7, 24, 25] (by decide +kernel) (by decide +kernel)
set_option maxRecDepth 20000 in
theorem gX1_bringBack_X1_stateAt : GoodIn wsX1_bringBack (wsV RX1 25 RX1 yX1_stateAt wsX1_stateAt) := goodIn_app (goodIn_of _ (by decide +kernel)) ggX1_bringBack_X1_stateAt
set_option maxRecDepth 20000 in
theorem ggX1_bringBack_X0_copyFrom : GoodIn wsX1_bringBack wsX0_copyFrom := goodIn_r _ [12, 13, 14, 15, 16, 17, 18, 19, 20, 21, 22, 23, 26, 27, 28, 29, 30, 31, 32] (by decide +kernel) (by decide +kernel)
set_option maxRecDepth 20000 in
theorem gX1_bringBack_X0_copyFrom : GoodIn wsX1_bringBack (wsV RX1 29 RX0 yX0_copyFrom wsX0_copyFrom) := goodIn_app (goodIn_of _ (by decide +kernel)) ggX1_bringBack_X0_copyFrom
theorem dX1_bringBack_0 : decode cX1_bringBack 0 = .ok (.aload_n 0, 1) := by decide +kernel
theorem dX1_bringBack_1 : decode cX1_bringBack 1 = .ok (.aload_n 0, 1) := by decide +kernel
theorem dX1_bringBack_2 : decode cX1_bringBack 2 = .ok (.getfield 17, 3) := by decide +kernel
theorem dX1_bringBack_5 : decode cX1_bringBack 5 = .ok (.iconst 1, 1) := by decide +kernel
theorem dX1_bringBack_6 : decode cX1_bringBack 6 = .ok (.isub, 1) := by decide +kernel
theorem dX1_bringBack_7 : decode cX1_bringBack 7 = .ok (.invokevirtual 25, 3) := by decide +kernel
theorem dX1_bringBack_10 : decode cX1_bringBack 10 = .ok (.astore_n 2, 1) := by decide +kernel
theorem dX1_bringBack_11 : decode cX1_bringBack 11 = .ok (.aload_n 2, 1) := by decide +kernel
theorem dX1_bringBack_12 : decode cX1_bringBack 12 = .ok (.ifnonnull 5, 3) := by decide +kernel
theorem dX1_bringBack_15 : decode cX1_bringBack 15 = .ok (.iconst 0, 1) := by decide +kernel
theorem dX1_bringBack_16 : decode cX1_bringBack 16 = .ok (.ireturn, 1) := by decide +kernel
theorem dX1_bringBack_17 : decode cX1_bringBack 17 = .ok (.aload_n 1, 1) := by decide +kernel
theorem dX1_bringBack_18 : decode cX1_bringBack 18 = .ok (.aload_n 2, 1) := by decide +kernel
theorem dX1_bringBack_19 : decode cX1_bringBack 19 = .ok (.invokevirtual 29, 3) := by decide +kernel
theorem dX1_bringBack_22 : decode cX1_bringBack 22 = .ok (.aload_n 0, 1) := by decide +kernel
theorem dX1_bringBack_23 : decode cX1_bringBack 23 = .ok (.dup, 1) := by decide +kernel
theorem dX1_bringBack_24 : decode cX1_bringBack 24 = .ok (.getfield 17, 3) := by decide +kernel
theorem dX1_bringBack_27 : decode cX1_bringBack 27 = .ok (.iconst 1, 1) := by decide +kernel
theorem dX1_bringBack_28 : decode cX1_bringBack 28 = .ok (.isub, 1) := by decide +kernel
theorem dX1_bringBack_29 : decode cX1_bringBack 29 = .ok (.putfield 17, 3) := by decide +kernel
theorem dX1_bringBack_32 : decode cX1_bringBack 32 = .ok (.iconst 1, 1) := by decide +kernel
theorem dX1_bringBack_33 : decode cX1_bringBack 33 = .ok (.ireturn, 1) := by decide +kernel
theorem dX1_dropOldest_0 : decode cX1_dropOldest 0 = .ok (.aload_n 0, 1) := by decide +kernel
theorem dX1_dropOldest_1 : decode cX1_dropOldest 1 = .ok (.getfield 11, 3) := by decide +kernel
theorem dX1_dropOldest_4 : decode cX1_dropOldest 4 = .ok (.iconst 0, 1) := by decide +kernel
theorem dX1_dropOldest_5 : decode cX1_dropOldest 5 = .ok (.aaload, 1) := by decide +kernel
theorem dX1_dropOldest_6 : decode cX1_dropOldest 6 = .ok (.astore_n 1, 1) := by decide +kernel
theorem dX1_dropOldest_7 : decode cX1_dropOldest 7 = .ok (.iconst 1, 1) := by decide +kernel
theorem dX1_dropOldest_8 : decode cX1_dropOldest 8 = .ok (.istore_n 2, 1) := by decide +kernel
theorem dX1_dropOldest_9 : decode cX1_dropOldest 9 = .ok (.iload_n 2, 1) := by decide +kernel
theorem dX1_dropOldest_10 : decode cX1_dropOldest 10 = .ok (.iconst 4, 1) := by decide +kernel
theorem dX1_dropOldest_11 : decode cX1_dropOldest 11 = .ok (.if_icmp .ge 23, 3) := by decide +kernel
theorem dX1_dropOldest_14 : decode cX1_dropOldest 14 = .ok (.aload_n 0, 1) := by decide +kernel
theorem dX1_dropOldest_15 : decode cX1_dropOldest 15 = .ok (.getfield 11, 3) := by decide +kernel
theorem dX1_dropOldest_18 : decode cX1_dropOldest 18 = .ok (.iload_n 2, 1) := by decide +kernel
theorem dX1_dropOldest_19 : decode cX1_dropOldest 19 = .ok (.iconst 1, 1) := by decide +kernel
theorem dX1_dropOldest_20 : decode cX1_dropOldest 20 = .ok (.isub, 1) := by decide +kernel
theorem dX1_dropOldest_21 : decode cX1_dropOldest 21 = .ok (.aload_n 0, 1) := by decide +kernel
theorem dX1_dropOldest_22 : decode cX1_dropOldest 22 = .ok (.getfield 11, 3) := by decide +kernel
theorem dX1_dropOldest_25 : decode cX1_dropOldest 25 = .ok (.iload_n 2, 1) := by decide +kernel
theorem dX1_dropOldest_26 : decode cX1_dropOldest 26 = .ok (.aaload, 1) := by decide +kernel
theorem dX1_dropOldest_27 : decode cX1_dropOldest 27 = .ok (.aastore, 1) := by decide +kernel
theorem dX1_dropOldest_28 : decode cX1_dropOldest 28 = .ok (.iinc 2 1, 3) := by decide +kernel
theorem dX1_dropOldest_31 : decode cX1_dropOldest 31 = .ok (.goto (-22), 3) := by decide +kernel
theorem dX1_dropOldest_34 : decode cX1_dropOldest 34 = .ok (.aload_n 0, 1) := by decide +kernel
theorem dX1_dropOldest_35 : decode cX1_dropOldest 35 = .ok (.getfield 11, 3) := by decide +kernel
theorem dX1_dropOldest_38 : decode cX1_dropOldest 38 = .ok (.iconst 3, 1) := by decide +kernel
theorem dX1_dropOldest_39 : decode cX1_dropOldest 39 = .ok (.aload_n 1, 1) := by decide +kernel
theorem dX1_dropOldest_40 : decode cX1_dropOldest 40 = .ok (.aastore, 1) := by decide +kernel
theorem dX1_dropOldest_41 : decode cX1_dropOldest 41 = .ok (.aload_n 0, 1) := by decide +kernel
theorem dX1_dropOldest_42 : decode cX1_dropOldest 42 = .ok (.iconst 3, 1) := by decide +kernel
theorem dX1_dropOldest_43 : decode cX1_dropOldest 43 = .ok (.putfield 17, 3) := by decide +kernel
theorem dX1_dropOldest_46 : decode cX1_dropOldest 46 = .ok (.return_, 1) := by decide +kernel
theorem dX1_stateAt_0 : decode cX1_stateAt 0 = .ok (.iload_n 1, 1) := by decide +kernel
theorem dX1_stateAt_1 : decode cX1_stateAt 1 = .ok (.ifCond .lt 21, 3) := by decide +kernel
theorem dX1_stateAt_4 : decode cX1_stateAt 4 = .ok (.iload_n 1, 1) := by decide +kernel
theorem dX1_stateAt_5 : decode cX1_stateAt 5 = .ok (.aload_n 0, 1) := by decide +kernel
theorem dX1_stateAt_6 : decode cX1_stateAt 6 = .ok (.getfield 11, 3) := by decide +kernel
theorem dX1_stateAt_9 : decode cX1_stateAt 9 = .ok (.arraylength, 1) := by decide +kernel
theorem dX1_stateAt_10 : decode cX1_stateAt 10 = .ok (.if_icmp .ge 12, 3) := by decide +kernel
theorem dX1_stateAt_13 : decode cX1_stateAt 13 = .ok (.aload_n 0, 1) := by decide +kernel
theorem dX1_stateAt_14 : decode cX1_stateAt 14 = .ok (.getfield 11, 3) := by decide +kernel
theorem dX1_stateAt_17 : decode cX1_stateAt 17 = .ok (.iload_n 1, 1) := by decide +kernel
theorem dX1_stateAt_18 : decode cX1_stateAt 18 = .ok (.aaload, 1) := by decide +kernel
theorem dX1_stateAt_19 : decode cX1_stateAt 19 = .ok (.goto 4, 3) := by decide +kernel
theorem dX1_stateAt_22 : decode cX1_stateAt 22 = .ok (.aconst_null, 1) := by decide +kernel
theorem dX1_stateAt_23 : decode cX1_stateAt 23 = .ok (.areturn, 1) := by decide +kernel
end
section
theorem dX2_init_0 : decode cX2_init 0 = .ok (.aload_n 0, 1) := by decide +kernel
theorem dX2_init_1 : decode cX2_init 1 = .ok (.invokespecial 3, 3) := by decide +kernel
theorem dX2_init_4 : decode cX2_init 4 = .ok (.aload_n 0, 1) := by decide +kernel
theorem dX2_init_5 : decode cX2_init 5 = .ok (.bipush 24, 2) := by decide +kernel
theorem dX2_init_7 : decode cX2_init 7 = .ok (.newarray .int, 2) := by decide +kernel
theorem dX2_init_9 : decode cX2_init 9 = .ok (.putfield 9, 3) := by decide +kernel
theorem dX2_init_12 : decode cX2_init 12 = .ok (.return_, 1) := by decide +kernel
set_option maxRecDepth 20000 in
theorem ggX2_layAll_X0_removeAllWires : GoodIn wsX2_layAll wsX0_removeAllWires := goodIn_r _ [5, 6, 7, 8, 9, 10, 11, 82, 83, 84, 85, 86, 87, 88] (by decide +kernel) (by decide +kernel)
set_option maxRecDepth 20000 in
theorem gX2_layAll_X0_removeAllWires : GoodIn wsX2_layAll (wsV RX2 15 RX0 yX0_removeAllWires wsX0_removeAllWires) := goodIn_app (goodIn_of _ (by decide +kernel)) ggX2_layAll_X0_removeAllWires
set_option maxRecDepth 20000 in
theorem ggX2_layAll_X0_distanceOf : GoodIn wsX2_layAll wsX0_distanceOf := goodIn_r _ [15, 16, 17, 18, 4, 19, 20, 21, 22, 23, 24, 25, 26, 27, 28, 29, 30, 31, 82, 83, 84, 85, 86, 87, 88] (by decide +kernel) (by decide +kernel)
set_option maxRecDepth 20000 in
theorem gX2_layAll_X0_distanceOf : GoodIn wsX2_layAll (wsV RX2 20 RX0 yX0_distanceOf wsX0_distanceOf) := goodIn_app (goodIn_of _ (by decide +kernel)) ggX2_layAll_X0_distanceOf
set_option maxRecDepth 20000 in
theorem ggX2_layAll_X2_layWire : GoodIn wsX2_layAll wsX2_layWire := goodIn_r _ [36, 37, 38, 39, 17, 18, 4, 19, 20, 21, 22, 23, 24, 25, 40, 41, 42, 43, 44, 35, 45, 46, 9, 10, 11, 47, 48, 49, 50, 51, 52, 53, 54, 55, 56, 7, 57, 58, 59, 60, 61, 62, 63, 6, 64, 65, 66, 67, 68, 69, 70, 71, 72, 73, 74, 75, 76, 77, 89, 82, 83, 84, 85, 86, 87, 88] (by decide +kernel) (by decide +kernel)
set_option maxRecDepth 20000 in
theorem gX2_layAll_X2_layWire : GoodIn wsX2_layAll (wsV RX2 24 RX2 yX2_layWire wsX2_layWire) := goodIn_app (goodIn_of _ (by decide +kernel)) ggX2_layAll_X2_layWire
set_option maxRecDepth 20000 in
theorem ggX2_layAll_X0_segmentsOfAll : GoodIn wsX2_layAll wsX0_segmentsOfAll := goodIn_r _ [81, 6, 82, 83, 84, 85, 86, 87, 88] (by decide +kernel) (by decide +kernel)
set_option maxRecDepth 20000 in
theorem gX2_layAll_X0_segmentsOfAll : GoodIn wsX2_layAll (wsV RX2 28 RX0 yX0_segmentsOfAll wsX0_segmentsOfAll) := goodIn_app (goodIn_of _ (by decide +kernel)) ggX2_layAll_X0_segmentsOfAll
theorem dX2_layAll_0 : decode cX2_layAll 0 = .ok (.aload_n 1, 1) := by decide +kernel
theorem dX2_layAll_1 : decode cX2_layAll 1 = .ok (.invokevirtual 15, 3) := by decide +kernel
theorem dX2_layAll_4 : decode cX2_layAll 4 = .ok (.iconst 0, 1) := by decide +kernel
theorem dX2_layAll_5 : decode cX2_layAll 5 = .ok (.istore_n 3, 1) := by decide +kernel
theorem dX2_layAll_6 : decode cX2_layAll 6 = .ok (.iload_n 3, 1) := by decide +kernel
theorem dX2_layAll_7 : decode cX2_layAll 7 = .ok (.bipush 8, 2) := by decide +kernel
theorem dX2_layAll_9 : decode cX2_layAll 9 = .ok (.if_icmp .gt 92, 3) := by decide +kernel
theorem dX2_layAll_12 : decode cX2_layAll 12 = .ok (.iload_n 2, 1) := by decide +kernel
theorem dX2_layAll_13 : decode cX2_layAll 13 = .ok (.iconst 1, 1) := by decide +kernel
theorem dX2_layAll_14 : decode cX2_layAll 14 = .ok (.if_icmp .ne 10, 3) := by decide +kernel
theorem dX2_layAll_17 : decode cX2_layAll 17 = .ok (.bipush 8, 2) := by decide +kernel
theorem dX2_layAll_19 : decode cX2_layAll 19 = .ok (.iload_n 3, 1) := by decide +kernel
theorem dX2_layAll_20 : decode cX2_layAll 20 = .ok (.isub, 1) := by decide +kernel
theorem dX2_layAll_21 : decode cX2_layAll 21 = .ok (.goto 4, 3) := by decide +kernel
theorem dX2_layAll_24 : decode cX2_layAll 24 = .ok (.iload_n 3, 1) := by decide +kernel
theorem dX2_layAll_25 : decode cX2_layAll 25 = .ok (.istore 4, 2) := by decide +kernel
theorem dX2_layAll_27 : decode cX2_layAll 27 = .ok (.iconst 0, 1) := by decide +kernel
theorem dX2_layAll_28 : decode cX2_layAll 28 = .ok (.istore 5, 2) := by decide +kernel
theorem dX2_layAll_30 : decode cX2_layAll 30 = .ok (.iload 5, 2) := by decide +kernel
theorem dX2_layAll_32 : decode cX2_layAll 32 = .ok (.bipush 72, 2) := by decide +kernel
theorem dX2_layAll_34 : decode cX2_layAll 34 = .ok (.if_icmp .ge 61, 3) := by decide +kernel
theorem dX2_layAll_37 : decode cX2_layAll 37 = .ok (.iload_n 2, 1) := by decide +kernel
theorem dX2_layAll_38 : decode cX2_layAll 38 = .ok (.ifCond .ne 15, 3) := by decide +kernel
theorem dX2_layAll_41 : decode cX2_layAll 41 = .ok (.iload_n 3, 1) := by decide +kernel
theorem dX2_layAll_42 : decode cX2_layAll 42 = .ok (.ifCond .ne 7, 3) := by decide +kernel
theorem dX2_layAll_45 : decode cX2_layAll 45 = .ok (.iconst 1, 1) := by decide +kernel
theorem dX2_layAll_46 : decode cX2_layAll 46 = .ok (.goto 23, 3) := by decide +kernel
theorem dX2_layAll_49 : decode cX2_layAll 49 = .ok (.iconst 0, 1) := by decide +kernel
theorem dX2_layAll_50 : decode cX2_layAll 50 = .ok (.goto 19, 3) := by decide +kernel
theorem dX2_layAll_53 : decode cX2_layAll 53 = .ok (.aload_n 1, 1) := by decide +kernel
theorem dX2_layAll_54 : decode cX2_layAll 54 = .ok (.iload 5, 2) := by decide +kernel
theorem dX2_layAll_56 : decode cX2_layAll 56 = .ok (.invokevirtual 20, 3) := by decide +kernel
theorem dX2_layAll_59 : decode cX2_layAll 59 = .ok (.iload 4, 2) := by decide +kernel
theorem dX2_layAll_61 : decode cX2_layAll 61 = .ok (.if_icmp .ne 7, 3) := by decide +kernel
theorem dX2_layAll_64 : decode cX2_layAll 64 = .ok (.iconst 1, 1) := by decide +kernel
theorem dX2_layAll_65 : decode cX2_layAll 65 = .ok (.goto 4, 3) := by decide +kernel
theorem dX2_layAll_68 : decode cX2_layAll 68 = .ok (.iconst 0, 1) := by decide +kernel
theorem dX2_layAll_69 : decode cX2_layAll 69 = .ok (.istore 6, 2) := by decide +kernel
theorem dX2_layAll_71 : decode cX2_layAll 71 = .ok (.iload 6, 2) := by decide +kernel
theorem dX2_layAll_73 : decode cX2_layAll 73 = .ok (.ifCond .eq 16, 3) := by decide +kernel
theorem dX2_layAll_76 : decode cX2_layAll 76 = .ok (.aload_n 0, 1) := by decide +kernel
theorem dX2_layAll_77 : decode cX2_layAll 77 = .ok (.aload_n 1, 1) := by decide +kernel
theorem dX2_layAll_78 : decode cX2_layAll 78 = .ok (.iload 5, 2) := by decide +kernel
theorem dX2_layAll_80 : decode cX2_layAll 80 = .ok (.invokevirtual 24, 3) := by decide +kernel
theorem dX2_layAll_83 : decode cX2_layAll 83 = .ok (.ifCond .ne 6, 3) := by decide +kernel
theorem dX2_layAll_86 : decode cX2_layAll 86 = .ok (.bipush (-3), 2) := by decide +kernel
theorem dX2_layAll_88 : decode cX2_layAll 88 = .ok (.ireturn, 1) := by decide +kernel
theorem dX2_layAll_89 : decode cX2_layAll 89 = .ok (.iinc 5 1, 3) := by decide +kernel
theorem dX2_layAll_92 : decode cX2_layAll 92 = .ok (.goto (-62), 3) := by decide +kernel
theorem dX2_layAll_95 : decode cX2_layAll 95 = .ok (.iinc 3 1, 3) := by decide +kernel
theorem dX2_layAll_98 : decode cX2_layAll 98 = .ok (.goto (-92), 3) := by decide +kernel
theorem dX2_layAll_101 : decode cX2_layAll 101 = .ok (.aload_n 1, 1) := by decide +kernel
theorem dX2_layAll_102 : decode cX2_layAll 102 = .ok (.invokevirtual 28, 3) := by decide +kernel
theorem dX2_layAll_105 : decode cX2_layAll 105 = .ok (.ireturn, 1) := by decide +kernel
set_option maxRecDepth 20000 in
theorem ggX2_layWire_X0_sourceOf : GoodIn wsX2_layWire wsX0_sourceOf := goodIn_r _ [7, 8, 9, 10, 11, 59, 60, 61, 62, 63, 64, 65] (by decide +kernel) (by decide +kernel)
set_option maxRecDepth 20000 in
theorem gX2_layWire_X0_sourceOf : GoodIn wsX2_layWire (wsV RX2 32 RX0 yX0_sourceOf wsX0_sourceOf) := goodIn_app (goodIn_of _ (by decide +kernel)) ggX2_layWire_X0_sourceOf
set_option maxRecDepth 20000 in
theorem ggX2_layWire_X5_junctionOf : GoodIn wsX2_layWire wsX5_junctionOf := goodIn_r _ [13] (by decide +kernel) (by decide +kernel)
set_option maxRecDepth 20000 in
theorem gX2_layWire_X5_junctionOf_n35 : GoodIn wsX2_layWire (wsX5_junctionOf) := ggX2_layWire_X5_junctionOf
set_option maxRecDepth 20000 in
theorem ggX2_layWire_X5_isPlace : GoodIn wsX2_layWire wsX5_isPlace := goodIn_r _ [15] (by decide +kernel) (by decide +kernel)
set_option maxRecDepth 20000 in
theorem gX2_layWire_X5_isPlace_n38 : GoodIn wsX2_layWire (wsX5_isPlace) := ggX2_layWire_X5_isPlace
set_option maxRecDepth 20000 in
theorem ggX2_layWire_X2_measureCosts : GoodIn wsX2_layWire wsX2_measureCosts := goodIn_r _ [20, 1, 2, 21, 22, 23, 24, 14, 10, 15, 25, 26, 27, 19, 28, 29, 30, 31, 32, 33, 6, 34, 35, 36, 37, 38, 58, 59, 60, 61, 62, 63, 64, 65] (by decide +kernel) (by decide +kernel)
set_option maxRecDepth 20000 in
theorem gX2_layWire_X2_measureCosts : GoodIn wsX2_layWire (wsV RX2 42 RX2 yX2_measureCosts wsX2_measureCosts) := goodIn_app (goodIn_of _ (by decide +kernel)) ggX2_layWire_X2_measureCosts
set_option maxRecDepth 20000 in
theorem ggX2_layWire_X0_startWire : GoodIn wsX2_layWire wsX0_startWire := goodIn_r _ [42, 43, 44, 9, 10, 11, 59, 60, 61, 62, 63, 64, 65] (by decide +kernel) (by decide +kernel)
set_option maxRecDepth 20000 in
theorem gX2_layWire_X0_startWire : GoodIn wsX2_layWire (wsV RX2 47 RX0 yX0_startWire wsX0_startWire) := goodIn_app (goodIn_of _ (by decide +kernel)) ggX2_layWire_X0_startWire
set_option maxRecDepth 20000 in
theorem ggX2_layWire_X2_nextJunction : GoodIn wsX2_layWire wsX2_nextJunction := goodIn_r _ [48, 1, 14, 10, 15, 25, 26, 27, 19, 28, 2, 29, 30, 31, 32, 33, 6, 34, 35, 36, 37, 38, 58, 59, 60, 61, 62, 63, 64, 65] (by decide +kernel) (by decide +kernel)
set_option maxRecDepth 20000 in
theorem gX2_layWire_X2_nextJunction : GoodIn wsX2_layWire (wsV RX2 51 RX2 yX2_nextJunction wsX2_nextJunction) := goodIn_app (goodIn_of _ (by decide +kernel)) ggX2_layWire_X2_nextJunction
set_option maxRecDepth 20000 in
theorem ggX2_layWire_X0_extendWire : GoodIn wsX2_layWire wsX0_extendWire := goodIn_r _ [52, 43, 44, 35, 9, 10, 11, 53, 54, 55, 56, 14, 15, 57, 29, 30, 59, 60, 61, 62, 63, 64, 65] (by decide +kernel) (by decide +kernel)
set_option maxRecDepth 20000 in
theorem gX2_layWire_X0_extendWire : GoodIn wsX2_layWire (wsV RX2 55 RX0 yX0_extendWire wsX0_extendWire) := goodIn_app (goodIn_of _ (by decide +kernel)) ggX2_layWire_X0_extendWire
theorem dX2_layWire_0 : decode cX2_layWire 0 = .ok (.aload_n 1, 1) := by decide +kernel
theorem dX2_layWire_1 : decode cX2_layWire 1 = .ok (.iload_n 2, 1) := by decide +kernel
theorem dX2_layWire_2 : decode cX2_layWire 2 = .ok (.invokevirtual 32, 3) := by decide +kernel
theorem dX2_layWire_5 : decode cX2_layWire 5 = .ok (.invokestatic 35, 3) := by decide +kernel
theorem dX2_layWire_8 : decode cX2_layWire 8 = .ok (.istore_n 3, 1) := by decide +kernel
theorem dX2_layWire_9 : decode cX2_layWire 9 = .ok (.iload_n 3, 1) := by decide +kernel
theorem dX2_layWire_10 : decode cX2_layWire 10 = .ok (.invokestatic 38, 3) := by decide +kernel
theorem dX2_layWire_13 : decode cX2_layWire 13 = .ok (.ifCond .ne 5, 3) := by decide +kernel
theorem dX2_layWire_16 : decode cX2_layWire 16 = .ok (.iconst 1, 1) := by decide +kernel
theorem dX2_layWire_17 : decode cX2_layWire 17 = .ok (.ireturn, 1) := by decide +kernel
theorem dX2_layWire_18 : decode cX2_layWire 18 = .ok (.iload_n 2, 1) := by decide +kernel
theorem dX2_layWire_19 : decode cX2_layWire 19 = .ok (.iconst 3, 1) := by decide +kernel
theorem dX2_layWire_20 : decode cX2_layWire 20 = .ok (.idiv, 1) := by decide +kernel
theorem dX2_layWire_21 : decode cX2_layWire 21 = .ok (.istore 4, 2) := by decide +kernel
theorem dX2_layWire_23 : decode cX2_layWire 23 = .ok (.aload_n 0, 1) := by decide +kernel
theorem dX2_layWire_24 : decode cX2_layWire 24 = .ok (.aload_n 1, 1) := by decide +kernel
theorem dX2_layWire_25 : decode cX2_layWire 25 = .ok (.iload 4, 2) := by decide +kernel
theorem dX2_layWire_27 : decode cX2_layWire 27 = .ok (.invokevirtual 42, 3) := by decide +kernel
theorem dX2_layWire_30 : decode cX2_layWire 30 = .ok (.aload_n 0, 1) := by decide +kernel
theorem dX2_layWire_31 : decode cX2_layWire 31 = .ok (.getfield 9, 3) := by decide +kernel
theorem dX2_layWire_34 : decode cX2_layWire 34 = .ok (.iload_n 3, 1) := by decide +kernel
theorem dX2_layWire_35 : decode cX2_layWire 35 = .ok (.iaload, 1) := by decide +kernel
theorem dX2_layWire_36 : decode cX2_layWire 36 = .ok (.ldc 46, 2) := by decide +kernel
theorem dX2_layWire_38 : decode cX2_layWire 38 = .ok (.if_icmp .lt 5, 3) := by decide +kernel
theorem dX2_layWire_41 : decode cX2_layWire 41 = .ok (.iconst 0, 1) := by decide +kernel
theorem dX2_layWire_42 : decode cX2_layWire 42 = .ok (.ireturn, 1) := by decide +kernel
theorem dX2_layWire_43 : decode cX2_layWire 43 = .ok (.aload_n 1, 1) := by decide +kernel
theorem dX2_layWire_44 : decode cX2_layWire 44 = .ok (.iload_n 2, 1) := by decide +kernel
theorem dX2_layWire_45 : decode cX2_layWire 45 = .ok (.iload_n 3, 1) := by decide +kernel
theorem dX2_layWire_46 : decode cX2_layWire 46 = .ok (.invokevirtual 47, 3) := by decide +kernel
theorem dX2_layWire_49 : decode cX2_layWire 49 = .ok (.iload_n 3, 1) := by decide +kernel
theorem dX2_layWire_50 : decode cX2_layWire 50 = .ok (.istore 5, 2) := by decide +kernel
theorem dX2_layWire_52 : decode cX2_layWire 52 = .ok (.iconst 1, 1) := by decide +kernel
theorem dX2_layWire_53 : decode cX2_layWire 53 = .ok (.istore 6, 2) := by decide +kernel
theorem dX2_layWire_55 : decode cX2_layWire 55 = .ok (.iload 6, 2) := by decide +kernel
theorem dX2_layWire_57 : decode cX2_layWire 57 = .ok (.bipush 24, 2) := by decide +kernel
theorem dX2_layWire_59 : decode cX2_layWire 59 = .ok (.if_icmp .ge 32, 3) := by decide +kernel
theorem dX2_layWire_62 : decode cX2_layWire 62 = .ok (.iload 5, 2) := by decide +kernel
theorem dX2_layWire_64 : decode cX2_layWire 64 = .ok (.iload 4, 2) := by decide +kernel
theorem dX2_layWire_66 : decode cX2_layWire 66 = .ok (.if_icmp .eq 25, 3) := by decide +kernel
theorem dX2_layWire_69 : decode cX2_layWire 69 = .ok (.aload_n 0, 1) := by decide +kernel
theorem dX2_layWire_70 : decode cX2_layWire 70 = .ok (.aload_n 1, 1) := by decide +kernel
theorem dX2_layWire_71 : decode cX2_layWire 71 = .ok (.iload 5, 2) := by decide +kernel
theorem dX2_layWire_73 : decode cX2_layWire 73 = .ok (.invokevirtual 51, 3) := by decide +kernel
theorem dX2_layWire_76 : decode cX2_layWire 76 = .ok (.istore 5, 2) := by decide +kernel
theorem dX2_layWire_78 : decode cX2_layWire 78 = .ok (.aload_n 1, 1) := by decide +kernel
theorem dX2_layWire_79 : decode cX2_layWire 79 = .ok (.iload_n 2, 1) := by decide +kernel
theorem dX2_layWire_80 : decode cX2_layWire 80 = .ok (.iload 5, 2) := by decide +kernel
theorem dX2_layWire_82 : decode cX2_layWire 82 = .ok (.invokevirtual 55, 3) := by decide +kernel
theorem dX2_layWire_85 : decode cX2_layWire 85 = .ok (.iinc 6 1, 3) := by decide +kernel
theorem dX2_layWire_88 : decode cX2_layWire 88 = .ok (.goto (-33), 3) := by decide +kernel
theorem dX2_layWire_91 : decode cX2_layWire 91 = .ok (.iconst 1, 1) := by decide +kernel
theorem dX2_layWire_92 : decode cX2_layWire 92 = .ok (.ireturn, 1) := by decide +kernel
set_option maxRecDepth 20000 in
theorem ggX2_measureCosts_J7_fill_53178 : GoodIn wsX2_measureCosts wsJ7_fill_53178 := goodIn_r _ [6] (by decide +kernel) (by decide +kernel)
set_option maxRecDepth 20000 in
theorem gX2_measureCosts_J7_fill_53178 : GoodIn wsX2_measureCosts (va_wsS RX2 58 yJ7_fill_53178 wsJ7_fill_53178) := goodIn_app (goodIn_of _ (by decide +kernel)) ggX2_measureCosts_J7_fill_53178
set_option maxRecDepth 20000 in
theorem ggX2_measureCosts_X5_isPlace : GoodIn wsX2_measureCosts wsX5_isPlace := goodIn_r _ [9] (by decide +kernel) (by decide +kernel)
set_option maxRecDepth 20000 in
theorem gX2_measureCosts_X5_isPlace_n38 : GoodIn wsX2_measureCosts (wsX5_isPlace) := ggX2_measureCosts_X5_isPlace
set_option maxRecDepth 20000 in
theorem ggX2_measureCosts_X2_costOver : GoodIn wsX2_measureCosts wsX2_costOver := goodIn_r _ [14, 2, 1, 15, 8, 16, 7, 9, 17, 18, 19, 20, 21, 22, 23, 24, 25, 26, 27, 28, 29, 30, 31, 32, 33] (by decide +kernel) (by decide +kernel)
set_option maxRecDepth 20000 in
theorem gX2_measureCosts_X2_costOver : GoodIn wsX2_measureCosts (wsV RX2 64 RX2 yX2_costOver wsX2_costOver) := goodIn_app (goodIn_of _ (by decide +kernel)) ggX2_measureCosts_X2_costOver
theorem dX2_measureCosts_0 : decode cX2_measureCosts 0 = .ok (.aload_n 0, 1) := by decide +kernel
theorem dX2_measureCosts_1 : decode cX2_measureCosts 1 = .ok (.getfield 9, 3) := by decide +kernel
theorem dX2_measureCosts_4 : decode cX2_measureCosts 4 = .ok (.ldc 46, 2) := by decide +kernel
theorem dX2_measureCosts_6 : decode cX2_measureCosts 6 = .ok (.invokestatic 58, 3) := by decide +kernel
theorem dX2_measureCosts_9 : decode cX2_measureCosts 9 = .ok (.iload_n 2, 1) := by decide +kernel
theorem dX2_measureCosts_10 : decode cX2_measureCosts 10 = .ok (.invokestatic 38, 3) := by decide +kernel
theorem dX2_measureCosts_13 : decode cX2_measureCosts 13 = .ok (.ifCond .eq 10, 3) := by decide +kernel
theorem dX2_measureCosts_16 : decode cX2_measureCosts 16 = .ok (.aload_n 0, 1) := by decide +kernel
theorem dX2_measureCosts_17 : decode cX2_measureCosts 17 = .ok (.getfield 9, 3) := by decide +kernel
theorem dX2_measureCosts_20 : decode cX2_measureCosts 20 = .ok (.iload_n 2, 1) := by decide +kernel
theorem dX2_measureCosts_21 : decode cX2_measureCosts 21 = .ok (.iconst 0, 1) := by decide +kernel
theorem dX2_measureCosts_22 : decode cX2_measureCosts 22 = .ok (.iastore, 1) := by decide +kernel
theorem dX2_measureCosts_23 : decode cX2_measureCosts 23 = .ok (.iconst 1, 1) := by decide +kernel
theorem dX2_measureCosts_24 : decode cX2_measureCosts 24 = .ok (.istore_n 3, 1) := by decide +kernel
theorem dX2_measureCosts_25 : decode cX2_measureCosts 25 = .ok (.iconst 0, 1) := by decide +kernel
theorem dX2_measureCosts_26 : decode cX2_measureCosts 26 = .ok (.istore 4, 2) := by decide +kernel
theorem dX2_measureCosts_28 : decode cX2_measureCosts 28 = .ok (.iload 4, 2) := by decide +kernel
theorem dX2_measureCosts_30 : decode cX2_measureCosts 30 = .ok (.bipush 24, 2) := by decide +kernel
theorem dX2_measureCosts_32 : decode cX2_measureCosts 32 = .ok (.if_icmp .ge 80, 3) := by decide +kernel
theorem dX2_measureCosts_35 : decode cX2_measureCosts 35 = .ok (.iload_n 3, 1) := by decide +kernel
theorem dX2_measureCosts_36 : decode cX2_measureCosts 36 = .ok (.ifCond .eq 76, 3) := by decide +kernel
theorem dX2_measureCosts_39 : decode cX2_measureCosts 39 = .ok (.iconst 0, 1) := by decide +kernel
theorem dX2_measureCosts_40 : decode cX2_measureCosts 40 = .ok (.istore_n 3, 1) := by decide +kernel
theorem dX2_measureCosts_41 : decode cX2_measureCosts 41 = .ok (.iconst 0, 1) := by decide +kernel
theorem dX2_measureCosts_42 : decode cX2_measureCosts 42 = .ok (.istore 5, 2) := by decide +kernel
theorem dX2_measureCosts_44 : decode cX2_measureCosts 44 = .ok (.iload 5, 2) := by decide +kernel
theorem dX2_measureCosts_46 : decode cX2_measureCosts 46 = .ok (.bipush 24, 2) := by decide +kernel
theorem dX2_measureCosts_48 : decode cX2_measureCosts 48 = .ok (.if_icmp .ge 58, 3) := by decide +kernel
theorem dX2_measureCosts_51 : decode cX2_measureCosts 51 = .ok (.iconst 0, 1) := by decide +kernel
theorem dX2_measureCosts_52 : decode cX2_measureCosts 52 = .ok (.istore 6, 2) := by decide +kernel
theorem dX2_measureCosts_54 : decode cX2_measureCosts 54 = .ok (.iload 6, 2) := by decide +kernel
theorem dX2_measureCosts_56 : decode cX2_measureCosts 56 = .ok (.iconst 4, 1) := by decide +kernel
theorem dX2_measureCosts_57 : decode cX2_measureCosts 57 = .ok (.if_icmp .ge 43, 3) := by decide +kernel
theorem dX2_measureCosts_60 : decode cX2_measureCosts 60 = .ok (.aload_n 0, 1) := by decide +kernel
theorem dX2_measureCosts_61 : decode cX2_measureCosts 61 = .ok (.aload_n 1, 1) := by decide +kernel
theorem dX2_measureCosts_62 : decode cX2_measureCosts 62 = .ok (.iload 5, 2) := by decide +kernel
theorem dX2_measureCosts_64 : decode cX2_measureCosts 64 = .ok (.iload 6, 2) := by decide +kernel
theorem dX2_measureCosts_66 : decode cX2_measureCosts 66 = .ok (.invokevirtual 64, 3) := by decide +kernel
theorem dX2_measureCosts_69 : decode cX2_measureCosts 69 = .ok (.istore 7, 2) := by decide +kernel
theorem dX2_measureCosts_71 : decode cX2_measureCosts 71 = .ok (.iload 7, 2) := by decide +kernel
theorem dX2_measureCosts_73 : decode cX2_measureCosts 73 = .ok (.aload_n 0, 1) := by decide +kernel
theorem dX2_measureCosts_74 : decode cX2_measureCosts 74 = .ok (.getfield 9, 3) := by decide +kernel
theorem dX2_measureCosts_77 : decode cX2_measureCosts 77 = .ok (.iload 5, 2) := by decide +kernel
theorem dX2_measureCosts_79 : decode cX2_measureCosts 79 = .ok (.iaload, 1) := by decide +kernel
theorem dX2_measureCosts_80 : decode cX2_measureCosts 80 = .ok (.if_icmp .ge 14, 3) := by decide +kernel
theorem dX2_measureCosts_83 : decode cX2_measureCosts 83 = .ok (.aload_n 0, 1) := by decide +kernel
theorem dX2_measureCosts_84 : decode cX2_measureCosts 84 = .ok (.getfield 9, 3) := by decide +kernel
theorem dX2_measureCosts_87 : decode cX2_measureCosts 87 = .ok (.iload 5, 2) := by decide +kernel
theorem dX2_measureCosts_89 : decode cX2_measureCosts 89 = .ok (.iload 7, 2) := by decide +kernel
theorem dX2_measureCosts_91 : decode cX2_measureCosts 91 = .ok (.iastore, 1) := by decide +kernel
theorem dX2_measureCosts_92 : decode cX2_measureCosts 92 = .ok (.iconst 1, 1) := by decide +kernel
theorem dX2_measureCosts_93 : decode cX2_measureCosts 93 = .ok (.istore_n 3, 1) := by decide +kernel
theorem dX2_measureCosts_94 : decode cX2_measureCosts 94 = .ok (.iinc 6 1, 3) := by decide +kernel
theorem dX2_measureCosts_97 : decode cX2_measureCosts 97 = .ok (.goto (-43), 3) := by decide +kernel
theorem dX2_measureCosts_100 : decode cX2_measureCosts 100 = .ok (.iinc 5 1, 3) := by decide +kernel
theorem dX2_measureCosts_103 : decode cX2_measureCosts 103 = .ok (.goto (-59), 3) := by decide +kernel
theorem dX2_measureCosts_106 : decode cX2_measureCosts 106 = .ok (.iinc 4 1, 3) := by decide +kernel
theorem dX2_measureCosts_109 : decode cX2_measureCosts 109 = .ok (.goto (-81), 3) := by decide +kernel
theorem dX2_measureCosts_112 : decode cX2_measureCosts 112 = .ok (.return_, 1) := by decide +kernel
set_option maxRecDepth 20000 in
theorem ggX2_costOver_X5_segmentAt : GoodIn wsX2_costOver wsX5_segmentAt := goodIn_r _ [5] (by decide +kernel) (by decide +kernel)
set_option maxRecDepth 20000 in
theorem gX2_costOver_X5_segmentAt_n68 : GoodIn wsX2_costOver (wsX5_segmentAt) := ggX2_costOver_X5_segmentAt
set_option maxRecDepth 20000 in
theorem ggX2_costOver_X5_isPlace : GoodIn wsX2_costOver wsX5_isPlace := goodIn_r _ [7] (by decide +kernel) (by decide +kernel)
set_option maxRecDepth 20000 in
theorem gX2_costOver_X5_isPlace_n38 : GoodIn wsX2_costOver (wsX5_isPlace) := ggX2_costOver_X5_isPlace
set_option maxRecDepth 20000 in
theorem ggX2_costOver_X0_priceOf : GoodIn wsX2_costOver wsX0_priceOf := goodIn_r _ [12, 13, 14, 15, 16, 18, 19, 20, 21, 22, 23, 24] (by decide +kernel) (by decide +kernel)
set_option maxRecDepth 20000 in
theorem gX2_costOver_X0_priceOf : GoodIn wsX2_costOver (wsV RX2 75 RX0 yX0_priceOf wsX0_priceOf) := goodIn_app (goodIn_of _ (by decide +kernel)) ggX2_costOver_X0_priceOf
theorem dX2_costOver_0 : decode cX2_costOver 0 = .ok (.iload_n 2, 1) := by decide +kernel
theorem dX2_costOver_1 : decode cX2_costOver 1 = .ok (.iload_n 3, 1) := by decide +kernel
theorem dX2_costOver_2 : decode cX2_costOver 2 = .ok (.invokestatic 68, 3) := by decide +kernel
theorem dX2_costOver_5 : decode cX2_costOver 5 = .ok (.istore 4, 2) := by decide +kernel
theorem dX2_costOver_7 : decode cX2_costOver 7 = .ok (.iload_n 2, 1) := by decide +kernel
theorem dX2_costOver_8 : decode cX2_costOver 8 = .ok (.getstatic 72, 3) := by decide +kernel
theorem dX2_costOver_11 : decode cX2_costOver 11 = .ok (.iload_n 3, 1) := by decide +kernel
theorem dX2_costOver_12 : decode cX2_costOver 12 = .ok (.iaload, 1) := by decide +kernel
theorem dX2_costOver_13 : decode cX2_costOver 13 = .ok (.iadd, 1) := by decide +kernel
theorem dX2_costOver_14 : decode cX2_costOver 14 = .ok (.istore 5, 2) := by decide +kernel
theorem dX2_costOver_16 : decode cX2_costOver 16 = .ok (.iload 4, 2) := by decide +kernel
theorem dX2_costOver_18 : decode cX2_costOver 18 = .ok (.iconst (-1), 1) := by decide +kernel
theorem dX2_costOver_19 : decode cX2_costOver 19 = .ok (.if_icmp .eq 11, 3) := by decide +kernel
theorem dX2_costOver_22 : decode cX2_costOver 22 = .ok (.iload 5, 2) := by decide +kernel
theorem dX2_costOver_24 : decode cX2_costOver 24 = .ok (.invokestatic 38, 3) := by decide +kernel
theorem dX2_costOver_27 : decode cX2_costOver 27 = .ok (.ifCond .ne 8, 3) := by decide +kernel
theorem dX2_costOver_30 : decode cX2_costOver 30 = .ok (.ldc 46, 2) := by decide +kernel
theorem dX2_costOver_32 : decode cX2_costOver 32 = .ok (.goto 17, 3) := by decide +kernel
theorem dX2_costOver_35 : decode cX2_costOver 35 = .ok (.aload_n 1, 1) := by decide +kernel
theorem dX2_costOver_36 : decode cX2_costOver 36 = .ok (.iload 4, 2) := by decide +kernel
theorem dX2_costOver_38 : decode cX2_costOver 38 = .ok (.invokevirtual 75, 3) := by decide +kernel
theorem dX2_costOver_41 : decode cX2_costOver 41 = .ok (.aload_n 0, 1) := by decide +kernel
theorem dX2_costOver_42 : decode cX2_costOver 42 = .ok (.getfield 9, 3) := by decide +kernel
theorem dX2_costOver_45 : decode cX2_costOver 45 = .ok (.iload 5, 2) := by decide +kernel
theorem dX2_costOver_47 : decode cX2_costOver 47 = .ok (.iaload, 1) := by decide +kernel
theorem dX2_costOver_48 : decode cX2_costOver 48 = .ok (.iadd, 1) := by decide +kernel
theorem dX2_costOver_49 : decode cX2_costOver 49 = .ok (.ireturn, 1) := by decide +kernel
set_option maxRecDepth 20000 in
theorem ggX2_nextJunction_X5_isPlace : GoodIn wsX2_nextJunction wsX5_isPlace := goodIn_r _ [4] (by decide +kernel) (by decide +kernel)
set_option maxRecDepth 20000 in
theorem gX2_nextJunction_X5_isPlace_n38 : GoodIn wsX2_nextJunction (wsX5_isPlace) := ggX2_nextJunction_X5_isPlace
set_option maxRecDepth 20000 in
theorem ggX2_nextJunction_X2_costOver : GoodIn wsX2_nextJunction wsX2_costOver := goodIn_r _ [9, 10, 1, 11, 3, 12, 2, 4, 13, 14, 15, 16, 17, 18, 19, 20, 21, 22, 23, 24, 25, 26, 27, 28, 29] (by decide +kernel) (by decide +kernel)
set_option maxRecDepth 20000 in
theorem gX2_nextJunction_X2_costOver : GoodIn wsX2_nextJunction (wsV RX2 64 RX2 yX2_costOver wsX2_costOver) := goodIn_app (goodIn_of _ (by decide +kernel)) ggX2_nextJunction_X2_costOver
theorem dX2_nextJunction_0 : decode cX2_nextJunction 0 = .ok (.iload_n 2, 1) := by decide +kernel
theorem dX2_nextJunction_1 : decode cX2_nextJunction 1 = .ok (.invokestatic 38, 3) := by decide +kernel
theorem dX2_nextJunction_4 : decode cX2_nextJunction 4 = .ok (.ifCond .ne 5, 3) := by decide +kernel
theorem dX2_nextJunction_7 : decode cX2_nextJunction 7 = .ok (.iconst (-1), 1) := by decide +kernel
theorem dX2_nextJunction_8 : decode cX2_nextJunction 8 = .ok (.ireturn, 1) := by decide +kernel
theorem dX2_nextJunction_9 : decode cX2_nextJunction 9 = .ok (.iconst 0, 1) := by decide +kernel
theorem dX2_nextJunction_10 : decode cX2_nextJunction 10 = .ok (.istore_n 3, 1) := by decide +kernel
theorem dX2_nextJunction_11 : decode cX2_nextJunction 11 = .ok (.iload_n 3, 1) := by decide +kernel
theorem dX2_nextJunction_12 : decode cX2_nextJunction 12 = .ok (.iconst 4, 1) := by decide +kernel
theorem dX2_nextJunction_13 : decode cX2_nextJunction 13 = .ok (.if_icmp .ge 33, 3) := by decide +kernel
theorem dX2_nextJunction_16 : decode cX2_nextJunction 16 = .ok (.aload_n 0, 1) := by decide +kernel
theorem dX2_nextJunction_17 : decode cX2_nextJunction 17 = .ok (.aload_n 1, 1) := by decide +kernel
theorem dX2_nextJunction_18 : decode cX2_nextJunction 18 = .ok (.iload_n 2, 1) := by decide +kernel
theorem dX2_nextJunction_19 : decode cX2_nextJunction 19 = .ok (.iload_n 3, 1) := by decide +kernel
theorem dX2_nextJunction_20 : decode cX2_nextJunction 20 = .ok (.invokevirtual 64, 3) := by decide +kernel
theorem dX2_nextJunction_23 : decode cX2_nextJunction 23 = .ok (.aload_n 0, 1) := by decide +kernel
theorem dX2_nextJunction_24 : decode cX2_nextJunction 24 = .ok (.getfield 9, 3) := by decide +kernel
theorem dX2_nextJunction_27 : decode cX2_nextJunction 27 = .ok (.iload_n 2, 1) := by decide +kernel
theorem dX2_nextJunction_28 : decode cX2_nextJunction 28 = .ok (.iaload, 1) := by decide +kernel
theorem dX2_nextJunction_29 : decode cX2_nextJunction 29 = .ok (.if_icmp .ne 11, 3) := by decide +kernel
theorem dX2_nextJunction_32 : decode cX2_nextJunction 32 = .ok (.iload_n 2, 1) := by decide +kernel
theorem dX2_nextJunction_33 : decode cX2_nextJunction 33 = .ok (.getstatic 72, 3) := by decide +kernel
theorem dX2_nextJunction_36 : decode cX2_nextJunction 36 = .ok (.iload_n 3, 1) := by decide +kernel
theorem dX2_nextJunction_37 : decode cX2_nextJunction 37 = .ok (.iaload, 1) := by decide +kernel
theorem dX2_nextJunction_38 : decode cX2_nextJunction 38 = .ok (.iadd, 1) := by decide +kernel
theorem dX2_nextJunction_39 : decode cX2_nextJunction 39 = .ok (.ireturn, 1) := by decide +kernel
theorem dX2_nextJunction_40 : decode cX2_nextJunction 40 = .ok (.iinc 3 1, 3) := by decide +kernel
theorem dX2_nextJunction_43 : decode cX2_nextJunction 43 = .ok (.goto (-32), 3) := by decide +kernel
theorem dX2_nextJunction_46 : decode cX2_nextJunction 46 = .ok (.iconst (-1), 1) := by decide +kernel
theorem dX2_nextJunction_47 : decode cX2_nextJunction 47 = .ok (.ireturn, 1) := by decide +kernel
end
section
theorem dX3_init_0 : decode cX3_init 0 = .ok (.aload_n 0, 1) := by decide +kernel
theorem dX3_init_1 : decode cX3_init 1 = .ok (.invokespecial 3, 3) := by decide +kernel
theorem dX3_init_4 : decode cX3_init 4 = .ok (.aload_n 0, 1) := by decide +kernel
theorem dX3_init_5 : decode cX3_init 5 = .ok (.bipush 24, 2) := by decide +kernel
theorem dX3_init_7 : decode cX3_init 7 = .ok (.newarray .int, 2) := by decide +kernel
theorem dX3_init_9 : decode cX3_init 9 = .ok (.putfield 9, 3) := by decide +kernel
theorem dX3_init_12 : decode cX3_init 12 = .ok (.aload_n 0, 1) := by decide +kernel
theorem dX3_init_13 : decode cX3_init 13 = .ok (.bipush 24, 2) := by decide +kernel
theorem dX3_init_15 : decode cX3_init 15 = .ok (.newarray .int, 2) := by decide +kernel
theorem dX3_init_17 : decode cX3_init 17 = .ok (.putfield 15, 3) := by decide +kernel
theorem dX3_init_20 : decode cX3_init 20 = .ok (.aload_n 0, 1) := by decide +kernel
theorem dX3_init_21 : decode cX3_init 21 = .ok (.bipush 24, 2) := by decide +kernel
theorem dX3_init_23 : decode cX3_init 23 = .ok (.newarray .int, 2) := by decide +kernel
theorem dX3_init_25 : decode cX3_init 25 = .ok (.putfield 18, 3) := by decide +kernel
theorem dX3_init_28 : decode cX3_init 28 = .ok (.aload_n 0, 1) := by decide +kernel
theorem dX3_init_29 : decode cX3_init 29 = .ok (.iconst 0, 1) := by decide +kernel
theorem dX3_init_30 : decode cX3_init 30 = .ok (.putfield 21, 3) := by decide +kernel
theorem dX3_init_33 : decode cX3_init 33 = .ok (.return_, 1) := by decide +kernel
set_option maxRecDepth 20000 in
theorem ggX3_study_J7_fill_53178 : GoodIn wsX3_study wsJ7_fill_53178 := goodIn_r _ [6] (by decide +kernel) (by decide +kernel)
set_option maxRecDepth 20000 in
theorem gX3_study_J7_fill_53178 : GoodIn wsX3_study (va_wsS RX3 25 yJ7_fill_53178 wsJ7_fill_53178) := goodIn_app (goodIn_of _ (by decide +kernel)) ggX3_study_J7_fill_53178
set_option maxRecDepth 20000 in
theorem ggX3_study_X3_settleSome : GoodIn wsX3_study wsX3_settleSome := goodIn_r _ [11, 2, 1, 12, 13, 14, 15, 16, 17, 18, 19, 20, 21, 22, 23, 24, 10, 25, 26, 27, 28, 29, 30, 31, 32, 33, 34, 35, 36, 37, 38, 39, 40, 41, 42, 43, 44, 45, 46, 47] (by decide +kernel) (by decide +kernel)
set_option maxRecDepth 20000 in
theorem gX3_study_X3_settleSome : GoodIn wsX3_study (wsV RX3 31 RX3 yX3_settleSome wsX3_settleSome) := goodIn_app (goodIn_of _ (by decide +kernel)) ggX3_study_X3_settleSome
theorem dX3_study_0 : decode cX3_study 0 = .ok (.aload_n 0, 1) := by decide +kernel
theorem dX3_study_1 : decode cX3_study 1 = .ok (.getfield 9, 3) := by decide +kernel
theorem dX3_study_4 : decode cX3_study 4 = .ok (.iconst 0, 1) := by decide +kernel
theorem dX3_study_5 : decode cX3_study 5 = .ok (.invokestatic 25, 3) := by decide +kernel
theorem dX3_study_8 : decode cX3_study 8 = .ok (.aload_n 0, 1) := by decide +kernel
theorem dX3_study_9 : decode cX3_study 9 = .ok (.iconst 0, 1) := by decide +kernel
theorem dX3_study_10 : decode cX3_study 10 = .ok (.putfield 21, 3) := by decide +kernel
theorem dX3_study_13 : decode cX3_study 13 = .ok (.iconst 1, 1) := by decide +kernel
theorem dX3_study_14 : decode cX3_study 14 = .ok (.istore_n 2, 1) := by decide +kernel
theorem dX3_study_15 : decode cX3_study 15 = .ok (.iconst 0, 1) := by decide +kernel
theorem dX3_study_16 : decode cX3_study 16 = .ok (.istore_n 3, 1) := by decide +kernel
theorem dX3_study_17 : decode cX3_study 17 = .ok (.iload_n 3, 1) := by decide +kernel
theorem dX3_study_18 : decode cX3_study 18 = .ok (.bipush 24, 2) := by decide +kernel
theorem dX3_study_20 : decode cX3_study 20 = .ok (.if_icmp .ge 19, 3) := by decide +kernel
theorem dX3_study_23 : decode cX3_study 23 = .ok (.iload_n 2, 1) := by decide +kernel
theorem dX3_study_24 : decode cX3_study 24 = .ok (.ifCond .eq 15, 3) := by decide +kernel
theorem dX3_study_27 : decode cX3_study 27 = .ok (.aload_n 0, 1) := by decide +kernel
theorem dX3_study_28 : decode cX3_study 28 = .ok (.aload_n 1, 1) := by decide +kernel
theorem dX3_study_29 : decode cX3_study 29 = .ok (.invokevirtual 31, 3) := by decide +kernel
theorem dX3_study_32 : decode cX3_study 32 = .ok (.istore_n 2, 1) := by decide +kernel
theorem dX3_study_33 : decode cX3_study 33 = .ok (.iinc 3 1, 3) := by decide +kernel
theorem dX3_study_36 : decode cX3_study 36 = .ok (.goto (-19), 3) := by decide +kernel
theorem dX3_study_39 : decode cX3_study 39 = .ok (.return_, 1) := by decide +kernel
set_option maxRecDepth 20000 in
theorem ggX3_settleSome_X0_hasCell : GoodIn wsX3_settleSome wsX0_hasCell := goodIn_r _ [8, 9, 10, 11, 12, 33, 34, 35, 36, 37, 38, 39] (by decide +kernel) (by decide +kernel)
set_option maxRecDepth 20000 in
theorem gX3_settleSome_X0_hasCell : GoodIn wsX3_settleSome (wsV RX3 35 RX0 yX0_hasCell wsX0_hasCell) := goodIn_app (goodIn_of _ (by decide +kernel)) ggX3_settleSome_X0_hasCell
set_option maxRecDepth 20000 in
theorem ggX3_settleSome_X3_depthBySources : GoodIn wsX3_settleSome wsX3_depthBySources := goodIn_r _ [17, 2, 18, 19, 20, 21, 22, 23, 24, 7, 25, 26, 27, 11, 28, 10, 12, 29, 30, 31, 32, 33, 34, 35, 36, 37, 38, 39] (by decide +kernel) (by decide +kernel)
set_option maxRecDepth 20000 in
theorem gX3_settleSome_X3_depthBySources : GoodIn wsX3_settleSome (wsV RX3 41 RX3 yX3_depthBySources wsX3_depthBySources) := goodIn_app (goodIn_of _ (by decide +kernel)) ggX3_settleSome_X3_depthBySources
theorem dX3_settleSome_0 : decode cX3_settleSome 0 = .ok (.aload_n 0, 1) := by decide +kernel
theorem dX3_settleSome_1 : decode cX3_settleSome 1 = .ok (.getfield 21, 3) := by decide +kernel
theorem dX3_settleSome_4 : decode cX3_settleSome 4 = .ok (.istore_n 2, 1) := by decide +kernel
theorem dX3_settleSome_5 : decode cX3_settleSome 5 = .ok (.iconst 0, 1) := by decide +kernel
theorem dX3_settleSome_6 : decode cX3_settleSome 6 = .ok (.istore_n 3, 1) := by decide +kernel
theorem dX3_settleSome_7 : decode cX3_settleSome 7 = .ok (.iload_n 3, 1) := by decide +kernel
theorem dX3_settleSome_8 : decode cX3_settleSome 8 = .ok (.bipush 24, 2) := by decide +kernel
theorem dX3_settleSome_10 : decode cX3_settleSome 10 = .ok (.if_icmp .ge 83, 3) := by decide +kernel
theorem dX3_settleSome_13 : decode cX3_settleSome 13 = .ok (.aload_n 1, 1) := by decide +kernel
theorem dX3_settleSome_14 : decode cX3_settleSome 14 = .ok (.iload_n 3, 1) := by decide +kernel
theorem dX3_settleSome_15 : decode cX3_settleSome 15 = .ok (.invokevirtual 35, 3) := by decide +kernel
theorem dX3_settleSome_18 : decode cX3_settleSome 18 = .ok (.ifCond .eq 21, 3) := by decide +kernel
theorem dX3_settleSome_21 : decode cX3_settleSome 21 = .ok (.aload_n 0, 1) := by decide +kernel
theorem dX3_settleSome_22 : decode cX3_settleSome 22 = .ok (.getfield 9, 3) := by decide +kernel
theorem dX3_settleSome_25 : decode cX3_settleSome 25 = .ok (.iload_n 3, 1) := by decide +kernel
theorem dX3_settleSome_26 : decode cX3_settleSome 26 = .ok (.iaload, 1) := by decide +kernel
theorem dX3_settleSome_27 : decode cX3_settleSome 27 = .ok (.ifCond .ne 12, 3) := by decide +kernel
theorem dX3_settleSome_30 : decode cX3_settleSome 30 = .ok (.aload_n 0, 1) := by decide +kernel
theorem dX3_settleSome_31 : decode cX3_settleSome 31 = .ok (.aload_n 1, 1) := by decide +kernel
theorem dX3_settleSome_32 : decode cX3_settleSome 32 = .ok (.iload_n 3, 1) := by decide +kernel
theorem dX3_settleSome_33 : decode cX3_settleSome 33 = .ok (.invokevirtual 41, 3) := by decide +kernel
theorem dX3_settleSome_36 : decode cX3_settleSome 36 = .ok (.goto 4, 3) := by decide +kernel
theorem dX3_settleSome_39 : decode cX3_settleSome 39 = .ok (.iconst 0, 1) := by decide +kernel
theorem dX3_settleSome_40 : decode cX3_settleSome 40 = .ok (.istore 4, 2) := by decide +kernel
theorem dX3_settleSome_42 : decode cX3_settleSome 42 = .ok (.iload 4, 2) := by decide +kernel
theorem dX3_settleSome_44 : decode cX3_settleSome 44 = .ok (.ifCond .le 43, 3) := by decide +kernel
theorem dX3_settleSome_47 : decode cX3_settleSome 47 = .ok (.aload_n 0, 1) := by decide +kernel
theorem dX3_settleSome_48 : decode cX3_settleSome 48 = .ok (.getfield 21, 3) := by decide +kernel
theorem dX3_settleSome_51 : decode cX3_settleSome 51 = .ok (.aload_n 0, 1) := by decide +kernel
theorem dX3_settleSome_52 : decode cX3_settleSome 52 = .ok (.getfield 18, 3) := by decide +kernel
theorem dX3_settleSome_55 : decode cX3_settleSome 55 = .ok (.arraylength, 1) := by decide +kernel
theorem dX3_settleSome_56 : decode cX3_settleSome 56 = .ok (.if_icmp .ge 31, 3) := by decide +kernel
theorem dX3_settleSome_59 : decode cX3_settleSome 59 = .ok (.aload_n 0, 1) := by decide +kernel
theorem dX3_settleSome_60 : decode cX3_settleSome 60 = .ok (.getfield 9, 3) := by decide +kernel
theorem dX3_settleSome_63 : decode cX3_settleSome 63 = .ok (.iload_n 3, 1) := by decide +kernel
theorem dX3_settleSome_64 : decode cX3_settleSome 64 = .ok (.iload 4, 2) := by decide +kernel
theorem dX3_settleSome_66 : decode cX3_settleSome 66 = .ok (.iastore, 1) := by decide +kernel
theorem dX3_settleSome_67 : decode cX3_settleSome 67 = .ok (.aload_n 0, 1) := by decide +kernel
theorem dX3_settleSome_68 : decode cX3_settleSome 68 = .ok (.getfield 18, 3) := by decide +kernel
theorem dX3_settleSome_71 : decode cX3_settleSome 71 = .ok (.aload_n 0, 1) := by decide +kernel
theorem dX3_settleSome_72 : decode cX3_settleSome 72 = .ok (.getfield 21, 3) := by decide +kernel
theorem dX3_settleSome_75 : decode cX3_settleSome 75 = .ok (.iload_n 3, 1) := by decide +kernel
theorem dX3_settleSome_76 : decode cX3_settleSome 76 = .ok (.iastore, 1) := by decide +kernel
theorem dX3_settleSome_77 : decode cX3_settleSome 77 = .ok (.aload_n 0, 1) := by decide +kernel
theorem dX3_settleSome_78 : decode cX3_settleSome 78 = .ok (.dup, 1) := by decide +kernel
theorem dX3_settleSome_79 : decode cX3_settleSome 79 = .ok (.getfield 21, 3) := by decide +kernel
theorem dX3_settleSome_82 : decode cX3_settleSome 82 = .ok (.iconst 1, 1) := by decide +kernel
theorem dX3_settleSome_83 : decode cX3_settleSome 83 = .ok (.iadd, 1) := by decide +kernel
theorem dX3_settleSome_84 : decode cX3_settleSome 84 = .ok (.putfield 21, 3) := by decide +kernel
theorem dX3_settleSome_87 : decode cX3_settleSome 87 = .ok (.iinc 3 1, 3) := by decide +kernel
theorem dX3_settleSome_90 : decode cX3_settleSome 90 = .ok (.goto (-83), 3) := by decide +kernel
theorem dX3_settleSome_93 : decode cX3_settleSome 93 = .ok (.aload_n 0, 1) := by decide +kernel
theorem dX3_settleSome_94 : decode cX3_settleSome 94 = .ok (.getfield 21, 3) := by decide +kernel
theorem dX3_settleSome_97 : decode cX3_settleSome 97 = .ok (.iload_n 2, 1) := by decide +kernel
theorem dX3_settleSome_98 : decode cX3_settleSome 98 = .ok (.if_icmp .le 7, 3) := by decide +kernel
theorem dX3_settleSome_101 : decode cX3_settleSome 101 = .ok (.iconst 1, 1) := by decide +kernel
theorem dX3_settleSome_102 : decode cX3_settleSome 102 = .ok (.goto 4, 3) := by decide +kernel
theorem dX3_settleSome_105 : decode cX3_settleSome 105 = .ok (.iconst 0, 1) := by decide +kernel
theorem dX3_settleSome_106 : decode cX3_settleSome 106 = .ok (.ireturn, 1) := by decide +kernel
set_option maxRecDepth 20000 in
theorem ggX3_depthBySources_X0_sourceOf : GoodIn wsX3_depthBySources wsX0_sourceOf := goodIn_r _ [10, 11, 12, 13, 14, 21, 22, 23, 24, 25, 26, 27] (by decide +kernel) (by decide +kernel)
set_option maxRecDepth 20000 in
theorem gX3_depthBySources_X0_sourceOf : GoodIn wsX3_depthBySources (wsV RX3 45 RX0 yX0_sourceOf wsX0_sourceOf) := goodIn_app (goodIn_of _ (by decide +kernel)) ggX3_depthBySources_X0_sourceOf
set_option maxRecDepth 20000 in
theorem ggX3_depthBySources_X5_isPlace : GoodIn wsX3_depthBySources wsX5_isPlace := goodIn_r _ [16] (by decide +kernel) (by decide +kernel)
set_option maxRecDepth 20000 in
theorem gX3_depthBySources_X5_isPlace_n49 : GoodIn wsX3_depthBySources (wsX5_isPlace) := ggX3_depthBySources_X5_isPlace
theorem dX3_depthBySources_0 : decode cX3_depthBySources 0 = .ok (.iconst 1, 1) := by decide +kernel
theorem dX3_depthBySources_1 : decode cX3_depthBySources 1 = .ok (.istore_n 3, 1) := by decide +kernel
theorem dX3_depthBySources_2 : decode cX3_depthBySources 2 = .ok (.iconst 0, 1) := by decide +kernel
theorem dX3_depthBySources_3 : decode cX3_depthBySources 3 = .ok (.istore 4, 2) := by decide +kernel
theorem dX3_depthBySources_5 : decode cX3_depthBySources 5 = .ok (.iload 4, 2) := by decide +kernel
theorem dX3_depthBySources_7 : decode cX3_depthBySources 7 = .ok (.iconst 3, 1) := by decide +kernel
theorem dX3_depthBySources_8 : decode cX3_depthBySources 8 = .ok (.if_icmp .ge 55, 3) := by decide +kernel
theorem dX3_depthBySources_11 : decode cX3_depthBySources 11 = .ok (.aload_n 1, 1) := by decide +kernel
theorem dX3_depthBySources_12 : decode cX3_depthBySources 12 = .ok (.iload_n 2, 1) := by decide +kernel
theorem dX3_depthBySources_13 : decode cX3_depthBySources 13 = .ok (.iconst 3, 1) := by decide +kernel
theorem dX3_depthBySources_14 : decode cX3_depthBySources 14 = .ok (.imul, 1) := by decide +kernel
theorem dX3_depthBySources_15 : decode cX3_depthBySources 15 = .ok (.iload 4, 2) := by decide +kernel
theorem dX3_depthBySources_17 : decode cX3_depthBySources 17 = .ok (.iadd, 1) := by decide +kernel
theorem dX3_depthBySources_18 : decode cX3_depthBySources 18 = .ok (.invokevirtual 45, 3) := by decide +kernel
theorem dX3_depthBySources_21 : decode cX3_depthBySources 21 = .ok (.istore 5, 2) := by decide +kernel
theorem dX3_depthBySources_23 : decode cX3_depthBySources 23 = .ok (.iload 5, 2) := by decide +kernel
theorem dX3_depthBySources_25 : decode cX3_depthBySources 25 = .ok (.invokestatic 49, 3) := by decide +kernel
theorem dX3_depthBySources_28 : decode cX3_depthBySources 28 = .ok (.ifCond .eq 29, 3) := by decide +kernel
theorem dX3_depthBySources_31 : decode cX3_depthBySources 31 = .ok (.aload_n 0, 1) := by decide +kernel
theorem dX3_depthBySources_32 : decode cX3_depthBySources 32 = .ok (.getfield 9, 3) := by decide +kernel
theorem dX3_depthBySources_35 : decode cX3_depthBySources 35 = .ok (.iload 5, 2) := by decide +kernel
theorem dX3_depthBySources_37 : decode cX3_depthBySources 37 = .ok (.iaload, 1) := by decide +kernel
theorem dX3_depthBySources_38 : decode cX3_depthBySources 38 = .ok (.ifCond .ne 5, 3) := by decide +kernel
theorem dX3_depthBySources_41 : decode cX3_depthBySources 41 = .ok (.iconst 0, 1) := by decide +kernel
theorem dX3_depthBySources_42 : decode cX3_depthBySources 42 = .ok (.ireturn, 1) := by decide +kernel
theorem dX3_depthBySources_43 : decode cX3_depthBySources 43 = .ok (.iload_n 3, 1) := by decide +kernel
theorem dX3_depthBySources_44 : decode cX3_depthBySources 44 = .ok (.aload_n 0, 1) := by decide +kernel
theorem dX3_depthBySources_45 : decode cX3_depthBySources 45 = .ok (.getfield 9, 3) := by decide +kernel
theorem dX3_depthBySources_48 : decode cX3_depthBySources 48 = .ok (.iload 5, 2) := by decide +kernel
theorem dX3_depthBySources_50 : decode cX3_depthBySources 50 = .ok (.iaload, 1) := by decide +kernel
theorem dX3_depthBySources_51 : decode cX3_depthBySources 51 = .ok (.iconst 1, 1) := by decide +kernel
theorem dX3_depthBySources_52 : decode cX3_depthBySources 52 = .ok (.iadd, 1) := by decide +kernel
theorem dX3_depthBySources_53 : decode cX3_depthBySources 53 = .ok (.invokestatic 52, 3) := by decide +kernel
theorem dX3_depthBySources_56 : decode cX3_depthBySources 56 = .ok (.istore_n 3, 1) := by decide +kernel
theorem dX3_depthBySources_57 : decode cX3_depthBySources 57 = .ok (.iinc 4 1, 3) := by decide +kernel
theorem dX3_depthBySources_60 : decode cX3_depthBySources 60 = .ok (.goto (-55), 3) := by decide +kernel
theorem dX3_depthBySources_63 : decode cX3_depthBySources 63 = .ok (.iload_n 3, 1) := by decide +kernel
theorem dX3_depthBySources_64 : decode cX3_depthBySources 64 = .ok (.ireturn, 1) := by decide +kernel
set_option maxRecDepth 20000 in
theorem ggX3_work_X0_sourceOf : GoodIn wsX3_work wsX0_sourceOf := goodIn_r _ [8, 9, 10, 11, 12, 29, 30, 31, 32, 33, 34, 35] (by decide +kernel) (by decide +kernel)
set_option maxRecDepth 20000 in
theorem gX3_work_X0_sourceOf : GoodIn wsX3_work (wsV RX3 45 RX0 yX0_sourceOf wsX0_sourceOf) := goodIn_app (goodIn_of _ (by decide +kernel)) ggX3_work_X0_sourceOf
set_option maxRecDepth 20000 in
theorem ggX3_work_X3_sourceBit : GoodIn wsX3_work wsX3_sourceBit := goodIn_r _ [17, 3, 18, 11, 19, 25, 26, 27, 28] (by decide +kernel) (by decide +kernel)
set_option maxRecDepth 20000 in
theorem gX3_work_X3_sourceBit : GoodIn wsX3_work (wsV RX3 58 RX3 yX3_sourceBit wsX3_sourceBit) := goodIn_app (goodIn_of _ (by decide +kernel)) ggX3_work_X3_sourceBit
set_option maxRecDepth 20000 in
theorem ggX3_work_X5_isPlace : GoodIn wsX3_work wsX5_isPlace := goodIn_r _ [19] (by decide +kernel) (by decide +kernel)
set_option maxRecDepth 20000 in
theorem gX3_work_X5_isPlace_n49 : GoodIn wsX3_work (wsX5_isPlace) := ggX3_work_X5_isPlace
set_option maxRecDepth 20000 in
theorem ggX3_work_X0_tableOf : GoodIn wsX3_work wsX0_tableOf := goodIn_r _ [23, 24, 18, 11, 19, 29, 30, 31, 32, 33, 34, 35] (by decide +kernel) (by decide +kernel)
set_option maxRecDepth 20000 in
theorem gX3_work_X0_tableOf : GoodIn wsX3_work (wsV RX3 61 RX0 yX0_tableOf wsX0_tableOf) := goodIn_app (goodIn_of _ (by decide +kernel)) ggX3_work_X0_tableOf
theorem dX3_work_0 : decode cX3_work 0 = .ok (.iconst 0, 1) := by decide +kernel
theorem dX3_work_1 : decode cX3_work 1 = .ok (.istore_n 3, 1) := by decide +kernel
theorem dX3_work_2 : decode cX3_work 2 = .ok (.iload_n 3, 1) := by decide +kernel
theorem dX3_work_3 : decode cX3_work 3 = .ok (.aload_n 0, 1) := by decide +kernel
theorem dX3_work_4 : decode cX3_work 4 = .ok (.getfield 21, 3) := by decide +kernel
theorem dX3_work_7 : decode cX3_work 7 = .ok (.if_icmp .ge 94, 3) := by decide +kernel
theorem dX3_work_10 : decode cX3_work 10 = .ok (.iload_n 3, 1) := by decide +kernel
theorem dX3_work_11 : decode cX3_work 11 = .ok (.aload_n 0, 1) := by decide +kernel
theorem dX3_work_12 : decode cX3_work 12 = .ok (.getfield 18, 3) := by decide +kernel
theorem dX3_work_15 : decode cX3_work 15 = .ok (.arraylength, 1) := by decide +kernel
theorem dX3_work_16 : decode cX3_work 16 = .ok (.if_icmp .ge 85, 3) := by decide +kernel
theorem dX3_work_19 : decode cX3_work 19 = .ok (.aload_n 0, 1) := by decide +kernel
theorem dX3_work_20 : decode cX3_work 20 = .ok (.getfield 18, 3) := by decide +kernel
theorem dX3_work_23 : decode cX3_work 23 = .ok (.iload_n 3, 1) := by decide +kernel
theorem dX3_work_24 : decode cX3_work 24 = .ok (.iaload, 1) := by decide +kernel
theorem dX3_work_25 : decode cX3_work 25 = .ok (.istore 4, 2) := by decide +kernel
theorem dX3_work_27 : decode cX3_work 27 = .ok (.iconst 0, 1) := by decide +kernel
theorem dX3_work_28 : decode cX3_work 28 = .ok (.istore 5, 2) := by decide +kernel
theorem dX3_work_30 : decode cX3_work 30 = .ok (.iconst 0, 1) := by decide +kernel
theorem dX3_work_31 : decode cX3_work 31 = .ok (.istore 6, 2) := by decide +kernel
theorem dX3_work_33 : decode cX3_work 33 = .ok (.iload 6, 2) := by decide +kernel
theorem dX3_work_35 : decode cX3_work 35 = .ok (.iconst 3, 1) := by decide +kernel
theorem dX3_work_36 : decode cX3_work 36 = .ok (.if_icmp .ge 33, 3) := by decide +kernel
theorem dX3_work_39 : decode cX3_work 39 = .ok (.iload 5, 2) := by decide +kernel
theorem dX3_work_41 : decode cX3_work 41 = .ok (.aload_n 0, 1) := by decide +kernel
theorem dX3_work_42 : decode cX3_work 42 = .ok (.aload_n 1, 1) := by decide +kernel
theorem dX3_work_43 : decode cX3_work 43 = .ok (.iload 4, 2) := by decide +kernel
theorem dX3_work_45 : decode cX3_work 45 = .ok (.iconst 3, 1) := by decide +kernel
theorem dX3_work_46 : decode cX3_work 46 = .ok (.imul, 1) := by decide +kernel
theorem dX3_work_47 : decode cX3_work 47 = .ok (.iload 6, 2) := by decide +kernel
theorem dX3_work_49 : decode cX3_work 49 = .ok (.iadd, 1) := by decide +kernel
theorem dX3_work_50 : decode cX3_work 50 = .ok (.invokevirtual 45, 3) := by decide +kernel
theorem dX3_work_53 : decode cX3_work 53 = .ok (.iload_n 2, 1) := by decide +kernel
theorem dX3_work_54 : decode cX3_work 54 = .ok (.invokevirtual 58, 3) := by decide +kernel
theorem dX3_work_57 : decode cX3_work 57 = .ok (.iload 6, 2) := by decide +kernel
theorem dX3_work_59 : decode cX3_work 59 = .ok (.ishl, 1) := by decide +kernel
theorem dX3_work_60 : decode cX3_work 60 = .ok (.ior, 1) := by decide +kernel
theorem dX3_work_61 : decode cX3_work 61 = .ok (.istore 5, 2) := by decide +kernel
theorem dX3_work_63 : decode cX3_work 63 = .ok (.iinc 6 1, 3) := by decide +kernel
theorem dX3_work_66 : decode cX3_work 66 = .ok (.goto (-33), 3) := by decide +kernel
theorem dX3_work_69 : decode cX3_work 69 = .ok (.iload 4, 2) := by decide +kernel
theorem dX3_work_71 : decode cX3_work 71 = .ok (.invokestatic 49, 3) := by decide +kernel
theorem dX3_work_74 : decode cX3_work 74 = .ok (.ifCond .eq 21, 3) := by decide +kernel
theorem dX3_work_77 : decode cX3_work 77 = .ok (.aload_n 0, 1) := by decide +kernel
theorem dX3_work_78 : decode cX3_work 78 = .ok (.getfield 15, 3) := by decide +kernel
theorem dX3_work_81 : decode cX3_work 81 = .ok (.iload 4, 2) := by decide +kernel
theorem dX3_work_83 : decode cX3_work 83 = .ok (.aload_n 1, 1) := by decide +kernel
theorem dX3_work_84 : decode cX3_work 84 = .ok (.iload 4, 2) := by decide +kernel
theorem dX3_work_86 : decode cX3_work 86 = .ok (.invokevirtual 61, 3) := by decide +kernel
theorem dX3_work_89 : decode cX3_work 89 = .ok (.iload 5, 2) := by decide +kernel
theorem dX3_work_91 : decode cX3_work 91 = .ok (.ishr, 1) := by decide +kernel
theorem dX3_work_92 : decode cX3_work 92 = .ok (.iconst 1, 1) := by decide +kernel
theorem dX3_work_93 : decode cX3_work 93 = .ok (.iand, 1) := by decide +kernel
theorem dX3_work_94 : decode cX3_work 94 = .ok (.iastore, 1) := by decide +kernel
theorem dX3_work_95 : decode cX3_work 95 = .ok (.iinc 3 1, 3) := by decide +kernel
theorem dX3_work_98 : decode cX3_work 98 = .ok (.goto (-96), 3) := by decide +kernel
theorem dX3_work_101 : decode cX3_work 101 = .ok (.return_, 1) := by decide +kernel
set_option maxRecDepth 20000 in
theorem ggX3_sourceBit_X5_isPlace : GoodIn wsX3_sourceBit wsX5_isPlace := goodIn_r _ [4] (by decide +kernel) (by decide +kernel)
set_option maxRecDepth 20000 in
theorem gX3_sourceBit_X5_isPlace_n49 : GoodIn wsX3_sourceBit (wsX5_isPlace) := ggX3_sourceBit_X5_isPlace
theorem dX3_sourceBit_0 : decode cX3_sourceBit 0 = .ok (.iload_n 1, 1) := by decide +kernel
theorem dX3_sourceBit_1 : decode cX3_sourceBit 1 = .ok (.invokestatic 49, 3) := by decide +kernel
theorem dX3_sourceBit_4 : decode cX3_sourceBit 4 = .ok (.ifCond .eq 10, 3) := by decide +kernel
theorem dX3_sourceBit_7 : decode cX3_sourceBit 7 = .ok (.aload_n 0, 1) := by decide +kernel
theorem dX3_sourceBit_8 : decode cX3_sourceBit 8 = .ok (.getfield 15, 3) := by decide +kernel
theorem dX3_sourceBit_11 : decode cX3_sourceBit 11 = .ok (.iload_n 1, 1) := by decide +kernel
theorem dX3_sourceBit_12 : decode cX3_sourceBit 12 = .ok (.iaload, 1) := by decide +kernel
theorem dX3_sourceBit_13 : decode cX3_sourceBit 13 = .ok (.ireturn, 1) := by decide +kernel
theorem dX3_sourceBit_14 : decode cX3_sourceBit 14 = .ok (.iload_n 1, 1) := by decide +kernel
theorem dX3_sourceBit_15 : decode cX3_sourceBit 15 = .ok (.bipush 24, 2) := by decide +kernel
theorem dX3_sourceBit_17 : decode cX3_sourceBit 17 = .ok (.if_icmp .lt 18, 3) := by decide +kernel
theorem dX3_sourceBit_20 : decode cX3_sourceBit 20 = .ok (.iload_n 1, 1) := by decide +kernel
theorem dX3_sourceBit_21 : decode cX3_sourceBit 21 = .ok (.bipush 32, 2) := by decide +kernel
theorem dX3_sourceBit_23 : decode cX3_sourceBit 23 = .ok (.if_icmp .ge 12, 3) := by decide +kernel
theorem dX3_sourceBit_26 : decode cX3_sourceBit 26 = .ok (.iload_n 2, 1) := by decide +kernel
theorem dX3_sourceBit_27 : decode cX3_sourceBit 27 = .ok (.iload_n 1, 1) := by decide +kernel
theorem dX3_sourceBit_28 : decode cX3_sourceBit 28 = .ok (.bipush 24, 2) := by decide +kernel
theorem dX3_sourceBit_30 : decode cX3_sourceBit 30 = .ok (.isub, 1) := by decide +kernel
theorem dX3_sourceBit_31 : decode cX3_sourceBit 31 = .ok (.ishr, 1) := by decide +kernel
theorem dX3_sourceBit_32 : decode cX3_sourceBit 32 = .ok (.iconst 1, 1) := by decide +kernel
theorem dX3_sourceBit_33 : decode cX3_sourceBit 33 = .ok (.iand, 1) := by decide +kernel
theorem dX3_sourceBit_34 : decode cX3_sourceBit 34 = .ok (.ireturn, 1) := by decide +kernel
theorem dX3_sourceBit_35 : decode cX3_sourceBit 35 = .ok (.iload_n 1, 1) := by decide +kernel
theorem dX3_sourceBit_36 : decode cX3_sourceBit 36 = .ok (.bipush 33, 2) := by decide +kernel
theorem dX3_sourceBit_38 : decode cX3_sourceBit 38 = .ok (.if_icmp .ne 7, 3) := by decide +kernel
theorem dX3_sourceBit_41 : decode cX3_sourceBit 41 = .ok (.iconst 1, 1) := by decide +kernel
theorem dX3_sourceBit_42 : decode cX3_sourceBit 42 = .ok (.goto 4, 3) := by decide +kernel
theorem dX3_sourceBit_45 : decode cX3_sourceBit 45 = .ok (.iconst 0, 1) := by decide +kernel
theorem dX3_sourceBit_46 : decode cX3_sourceBit 46 = .ok (.ireturn, 1) := by decide +kernel
set_option maxRecDepth 20000 in
theorem ggX3_answers_X3_depthOf : GoodIn wsX3_answers wsX3_depthOf := goodIn_r _ [5, 6, 7, 8, 9, 10, 11, 12, 13] (by decide +kernel) (by decide +kernel)
set_option maxRecDepth 20000 in
theorem gX3_answers_X3_depthOf : GoodIn wsX3_answers (wsV RX3 64 RX3 yX3_depthOf wsX3_depthOf) := goodIn_app (goodIn_of _ (by decide +kernel)) ggX3_answers_X3_depthOf
theorem dX3_answers_0 : decode cX3_answers 0 = .ok (.aload_n 0, 1) := by decide +kernel
theorem dX3_answers_1 : decode cX3_answers 1 = .ok (.iload_n 1, 1) := by decide +kernel
theorem dX3_answers_2 : decode cX3_answers 2 = .ok (.invokevirtual 64, 3) := by decide +kernel
theorem dX3_answers_5 : decode cX3_answers 5 = .ok (.ifCond .le 7, 3) := by decide +kernel
theorem dX3_answers_8 : decode cX3_answers 8 = .ok (.iconst 1, 1) := by decide +kernel
theorem dX3_answers_9 : decode cX3_answers 9 = .ok (.goto 4, 3) := by decide +kernel
theorem dX3_answers_12 : decode cX3_answers 12 = .ok (.iconst 0, 1) := by decide +kernel
theorem dX3_answers_13 : decode cX3_answers 13 = .ok (.ireturn, 1) := by decide +kernel
set_option maxRecDepth 20000 in
theorem ggX3_depthOf_X5_isPlace : GoodIn wsX3_depthOf wsX5_isPlace := goodIn_r _ [4] (by decide +kernel) (by decide +kernel)
set_option maxRecDepth 20000 in
theorem gX3_depthOf_X5_isPlace_n49 : GoodIn wsX3_depthOf (wsX5_isPlace) := ggX3_depthOf_X5_isPlace
theorem dX3_depthOf_0 : decode cX3_depthOf 0 = .ok (.iload_n 1, 1) := by decide +kernel
theorem dX3_depthOf_1 : decode cX3_depthOf 1 = .ok (.invokestatic 49, 3) := by decide +kernel
theorem dX3_depthOf_4 : decode cX3_depthOf 4 = .ok (.ifCond .eq 12, 3) := by decide +kernel
theorem dX3_depthOf_7 : decode cX3_depthOf 7 = .ok (.aload_n 0, 1) := by decide +kernel
theorem dX3_depthOf_8 : decode cX3_depthOf 8 = .ok (.getfield 9, 3) := by decide +kernel
theorem dX3_depthOf_11 : decode cX3_depthOf 11 = .ok (.iload_n 1, 1) := by decide +kernel
theorem dX3_depthOf_12 : decode cX3_depthOf 12 = .ok (.iaload, 1) := by decide +kernel
theorem dX3_depthOf_13 : decode cX3_depthOf 13 = .ok (.goto 4, 3) := by decide +kernel
theorem dX3_depthOf_16 : decode cX3_depthOf 16 = .ok (.iconst 0, 1) := by decide +kernel
theorem dX3_depthOf_17 : decode cX3_depthOf 17 = .ok (.ireturn, 1) := by decide +kernel
set_option maxRecDepth 20000 in
theorem ggX3_bitOf_X5_isPlace : GoodIn wsX3_bitOf wsX5_isPlace := goodIn_r _ [4] (by decide +kernel) (by decide +kernel)
set_option maxRecDepth 20000 in
theorem gX3_bitOf_X5_isPlace_n49 : GoodIn wsX3_bitOf (wsX5_isPlace) := ggX3_bitOf_X5_isPlace
theorem dX3_bitOf_0 : decode cX3_bitOf 0 = .ok (.iload_n 1, 1) := by decide +kernel
theorem dX3_bitOf_1 : decode cX3_bitOf 1 = .ok (.invokestatic 49, 3) := by decide +kernel
theorem dX3_bitOf_4 : decode cX3_bitOf 4 = .ok (.ifCond .eq 12, 3) := by decide +kernel
theorem dX3_bitOf_7 : decode cX3_bitOf 7 = .ok (.aload_n 0, 1) := by decide +kernel
theorem dX3_bitOf_8 : decode cX3_bitOf 8 = .ok (.getfield 15, 3) := by decide +kernel
theorem dX3_bitOf_11 : decode cX3_bitOf 11 = .ok (.iload_n 1, 1) := by decide +kernel
theorem dX3_bitOf_12 : decode cX3_bitOf 12 = .ok (.iaload, 1) := by decide +kernel
theorem dX3_bitOf_13 : decode cX3_bitOf 13 = .ok (.goto 4, 3) := by decide +kernel
theorem dX3_bitOf_16 : decode cX3_bitOf 16 = .ok (.iconst 0, 1) := by decide +kernel
theorem dX3_bitOf_17 : decode cX3_bitOf 17 = .ok (.ireturn, 1) := by decide +kernel
theorem dX3_cellsThatAnswer_0 : decode cX3_cellsThatAnswer 0 = .ok (.aload_n 0, 1) := by decide +kernel
theorem dX3_cellsThatAnswer_1 : decode cX3_cellsThatAnswer 1 = .ok (.getfield 21, 3) := by decide +kernel
theorem dX3_cellsThatAnswer_4 : decode cX3_cellsThatAnswer 4 = .ok (.ireturn, 1) := by decide +kernel
theorem dX3_greatestDepth_0 : decode cX3_greatestDepth 0 = .ok (.iconst 0, 1) := by decide +kernel
theorem dX3_greatestDepth_1 : decode cX3_greatestDepth 1 = .ok (.istore_n 1, 1) := by decide +kernel
theorem dX3_greatestDepth_2 : decode cX3_greatestDepth 2 = .ok (.iconst 0, 1) := by decide +kernel
theorem dX3_greatestDepth_3 : decode cX3_greatestDepth 3 = .ok (.istore_n 2, 1) := by decide +kernel
theorem dX3_greatestDepth_4 : decode cX3_greatestDepth 4 = .ok (.iload_n 2, 1) := by decide +kernel
theorem dX3_greatestDepth_5 : decode cX3_greatestDepth 5 = .ok (.bipush 24, 2) := by decide +kernel
theorem dX3_greatestDepth_7 : decode cX3_greatestDepth 7 = .ok (.if_icmp .ge 20, 3) := by decide +kernel
theorem dX3_greatestDepth_10 : decode cX3_greatestDepth 10 = .ok (.iload_n 1, 1) := by decide +kernel
theorem dX3_greatestDepth_11 : decode cX3_greatestDepth 11 = .ok (.aload_n 0, 1) := by decide +kernel
theorem dX3_greatestDepth_12 : decode cX3_greatestDepth 12 = .ok (.getfield 9, 3) := by decide +kernel
theorem dX3_greatestDepth_15 : decode cX3_greatestDepth 15 = .ok (.iload_n 2, 1) := by decide +kernel
theorem dX3_greatestDepth_16 : decode cX3_greatestDepth 16 = .ok (.iaload, 1) := by decide +kernel
theorem dX3_greatestDepth_17 : decode cX3_greatestDepth 17 = .ok (.invokestatic 52, 3) := by decide +kernel
theorem dX3_greatestDepth_20 : decode cX3_greatestDepth 20 = .ok (.istore_n 1, 1) := by decide +kernel
theorem dX3_greatestDepth_21 : decode cX3_greatestDepth 21 = .ok (.iinc 2 1, 3) := by decide +kernel
theorem dX3_greatestDepth_24 : decode cX3_greatestDepth 24 = .ok (.goto (-20), 3) := by decide +kernel
theorem dX3_greatestDepth_27 : decode cX3_greatestDepth 27 = .ok (.iload_n 1, 1) := by decide +kernel
theorem dX3_greatestDepth_28 : decode cX3_greatestDepth 28 = .ok (.ireturn, 1) := by decide +kernel
end
section
theorem dX4_init_0 : decode cX4_init 0 = .ok (.aload_n 0, 1) := by decide +kernel
theorem dX4_init_1 : decode cX4_init 1 = .ok (.invokespecial 3, 3) := by decide +kernel
theorem dX4_init_4 : decode cX4_init 4 = .ok (.aload_n 0, 1) := by decide +kernel
theorem dX4_init_5 : decode cX4_init 5 = .ok (.bipush 80, 2) := by decide +kernel
theorem dX4_init_7 : decode cX4_init 7 = .ok (.newarray .char, 2) := by decide +kernel
theorem dX4_init_9 : decode cX4_init 9 = .ok (.putfield 9, 3) := by decide +kernel
theorem dX4_init_12 : decode cX4_init 12 = .ok (.aload_n 0, 1) := by decide +kernel
theorem dX4_init_13 : decode cX4_init 13 = .ok (.iconst 0, 1) := by decide +kernel
theorem dX4_init_14 : decode cX4_init 14 = .ok (.putfield 15, 3) := by decide +kernel
theorem dX4_init_17 : decode cX4_init 17 = .ok (.aload_n 0, 1) := by decide +kernel
theorem dX4_init_18 : decode cX4_init 18 = .ok (.iconst 0, 1) := by decide +kernel
theorem dX4_init_19 : decode cX4_init 19 = .ok (.putfield 19, 3) := by decide +kernel
theorem dX4_init_22 : decode cX4_init 22 = .ok (.return_, 1) := by decide +kernel
theorem dX4_length_0 : decode cX4_length 0 = .ok (.aload_n 0, 1) := by decide +kernel
theorem dX4_length_1 : decode cX4_length 1 = .ok (.getfield 15, 3) := by decide +kernel
theorem dX4_length_4 : decode cX4_length 4 = .ok (.ireturn, 1) := by decide +kernel
theorem dX4_append_0 : decode cX4_append 0 = .ok (.aload_n 0, 1) := by decide +kernel
theorem dX4_append_1 : decode cX4_append 1 = .ok (.getfield 15, 3) := by decide +kernel
theorem dX4_append_4 : decode cX4_append 4 = .ok (.aload_n 0, 1) := by decide +kernel
theorem dX4_append_5 : decode cX4_append 5 = .ok (.getfield 9, 3) := by decide +kernel
theorem dX4_append_8 : decode cX4_append 8 = .ok (.arraylength, 1) := by decide +kernel
theorem dX4_append_9 : decode cX4_append 9 = .ok (.if_icmp .lt 5, 3) := by decide +kernel
theorem dX4_append_12 : decode cX4_append 12 = .ok (.iconst 0, 1) := by decide +kernel
theorem dX4_append_13 : decode cX4_append 13 = .ok (.ireturn, 1) := by decide +kernel
theorem dX4_append_14 : decode cX4_append 14 = .ok (.aload_n 0, 1) := by decide +kernel
theorem dX4_append_15 : decode cX4_append 15 = .ok (.getfield 9, 3) := by decide +kernel
theorem dX4_append_18 : decode cX4_append 18 = .ok (.aload_n 0, 1) := by decide +kernel
theorem dX4_append_19 : decode cX4_append 19 = .ok (.getfield 15, 3) := by decide +kernel
theorem dX4_append_22 : decode cX4_append 22 = .ok (.iload_n 1, 1) := by decide +kernel
theorem dX4_append_23 : decode cX4_append 23 = .ok (.castore, 1) := by decide +kernel
theorem dX4_append_24 : decode cX4_append 24 = .ok (.aload_n 0, 1) := by decide +kernel
theorem dX4_append_25 : decode cX4_append 25 = .ok (.dup, 1) := by decide +kernel
theorem dX4_append_26 : decode cX4_append 26 = .ok (.getfield 15, 3) := by decide +kernel
theorem dX4_append_29 : decode cX4_append 29 = .ok (.iconst 1, 1) := by decide +kernel
theorem dX4_append_30 : decode cX4_append 30 = .ok (.iadd, 1) := by decide +kernel
theorem dX4_append_31 : decode cX4_append 31 = .ok (.putfield 15, 3) := by decide +kernel
theorem dX4_append_34 : decode cX4_append 34 = .ok (.iconst 1, 1) := by decide +kernel
theorem dX4_append_35 : decode cX4_append 35 = .ok (.ireturn, 1) := by decide +kernel
theorem dX4_empty_0 : decode cX4_empty 0 = .ok (.aload_n 0, 1) := by decide +kernel
theorem dX4_empty_1 : decode cX4_empty 1 = .ok (.iconst 0, 1) := by decide +kernel
theorem dX4_empty_2 : decode cX4_empty 2 = .ok (.putfield 15, 3) := by decide +kernel
theorem dX4_empty_5 : decode cX4_empty 5 = .ok (.return_, 1) := by decide +kernel
set_option maxRecDepth 20000 in
theorem ggX4_readInto_X4_readCell : GoodIn wsX4_readInto wsX4_readCell := goodIn_r _ [7, 8, 9, 10, 6, 11, 1, 12, 13, 14, 15, 16, 17, 18, 19, 2, 20, 21, 22, 23, 24, 25, 26, 27, 28, 29, 30, 31, 32, 33, 34, 35, 36, 37, 38, 39, 40, 41, 42, 43, 44, 45, 46, 47, 48, 49, 50, 51, 52, 53, 54, 55, 56, 57, 58] (by decide +kernel) (by decide +kernel)
set_option maxRecDepth 20000 in
theorem gX4_readInto_X4_readCell : GoodIn wsX4_readInto (wsV RX4 22 RX4 yX4_readCell wsX4_readCell) := goodIn_app (goodIn_of _ (by decide +kernel)) ggX4_readInto_X4_readCell
set_option maxRecDepth 20000 in
theorem ggX4_readInto_X4_pass : GoodIn wsX4_readInto wsX4_pass := goodIn_r _ [24, 1, 16, 17, 18, 6, 19, 2, 20, 49, 50, 51] (by decide +kernel) (by decide +kernel)
set_option maxRecDepth 20000 in
theorem gX4_readInto_X4_pass : GoodIn wsX4_readInto (wsV RX4 26 RX4 yX4_pass wsX4_pass) := goodIn_app (goodIn_of _ (by decide +kernel)) ggX4_readInto_X4_pass
theorem dX4_readInto_0 : decode cX4_readInto 0 = .ok (.aload_n 0, 1) := by decide +kernel
theorem dX4_readInto_1 : decode cX4_readInto 1 = .ok (.iconst 0, 1) := by decide +kernel
theorem dX4_readInto_2 : decode cX4_readInto 2 = .ok (.putfield 19, 3) := by decide +kernel
theorem dX4_readInto_5 : decode cX4_readInto 5 = .ok (.iconst 0, 1) := by decide +kernel
theorem dX4_readInto_6 : decode cX4_readInto 6 = .ok (.istore_n 2, 1) := by decide +kernel
theorem dX4_readInto_7 : decode cX4_readInto 7 = .ok (.iload_n 2, 1) := by decide +kernel
theorem dX4_readInto_8 : decode cX4_readInto 8 = .ok (.bipush 80, 2) := by decide +kernel
theorem dX4_readInto_10 : decode cX4_readInto 10 = .ok (.if_icmp .ge 49, 3) := by decide +kernel
theorem dX4_readInto_13 : decode cX4_readInto 13 = .ok (.aload_n 0, 1) := by decide +kernel
theorem dX4_readInto_14 : decode cX4_readInto 14 = .ok (.aload_n 1, 1) := by decide +kernel
theorem dX4_readInto_15 : decode cX4_readInto 15 = .ok (.invokevirtual 22, 3) := by decide +kernel
theorem dX4_readInto_18 : decode cX4_readInto 18 = .ok (.ifCond .ne 8, 3) := by decide +kernel
theorem dX4_readInto_21 : decode cX4_readInto 21 = .ok (.aload_n 0, 1) := by decide +kernel
theorem dX4_readInto_22 : decode cX4_readInto 22 = .ok (.getfield 19, 3) := by decide +kernel
theorem dX4_readInto_25 : decode cX4_readInto 25 = .ok (.ireturn, 1) := by decide +kernel
theorem dX4_readInto_26 : decode cX4_readInto 26 = .ok (.aload_n 0, 1) := by decide +kernel
theorem dX4_readInto_27 : decode cX4_readInto 27 = .ok (.getfield 19, 3) := by decide +kernel
theorem dX4_readInto_30 : decode cX4_readInto 30 = .ok (.aload_n 0, 1) := by decide +kernel
theorem dX4_readInto_31 : decode cX4_readInto 31 = .ok (.getfield 15, 3) := by decide +kernel
theorem dX4_readInto_34 : decode cX4_readInto 34 = .ok (.if_icmp .ne 5, 3) := by decide +kernel
theorem dX4_readInto_37 : decode cX4_readInto 37 = .ok (.iconst (-1), 1) := by decide +kernel
theorem dX4_readInto_38 : decode cX4_readInto 38 = .ok (.ireturn, 1) := by decide +kernel
theorem dX4_readInto_39 : decode cX4_readInto 39 = .ok (.aload_n 0, 1) := by decide +kernel
theorem dX4_readInto_40 : decode cX4_readInto 40 = .ok (.bipush 59, 2) := by decide +kernel
theorem dX4_readInto_42 : decode cX4_readInto 42 = .ok (.invokevirtual 26, 3) := by decide +kernel
theorem dX4_readInto_45 : decode cX4_readInto 45 = .ok (.ifCond .ne 8, 3) := by decide +kernel
theorem dX4_readInto_48 : decode cX4_readInto 48 = .ok (.aload_n 0, 1) := by decide +kernel
theorem dX4_readInto_49 : decode cX4_readInto 49 = .ok (.getfield 19, 3) := by decide +kernel
theorem dX4_readInto_52 : decode cX4_readInto 52 = .ok (.ireturn, 1) := by decide +kernel
theorem dX4_readInto_53 : decode cX4_readInto 53 = .ok (.iinc 2 1, 3) := by decide +kernel
theorem dX4_readInto_56 : decode cX4_readInto 56 = .ok (.goto (-49), 3) := by decide +kernel
theorem dX4_readInto_59 : decode cX4_readInto 59 = .ok (.aload_n 0, 1) := by decide +kernel
theorem dX4_readInto_60 : decode cX4_readInto 60 = .ok (.getfield 19, 3) := by decide +kernel
theorem dX4_readInto_63 : decode cX4_readInto 63 = .ok (.ireturn, 1) := by decide +kernel
set_option maxRecDepth 20000 in
theorem ggX4_readCell_X4_readNumber : GoodIn wsX4_readCell wsX4_readNumber := goodIn_r _ [5, 6, 7, 8, 9, 4, 10, 11, 12, 13, 14, 15, 16, 45, 46, 47] (by decide +kernel) (by decide +kernel)
set_option maxRecDepth 20000 in
theorem gX4_readCell_X4_readNumber : GoodIn wsX4_readCell (wsV RX4 30 RX4 yX4_readNumber wsX4_readNumber) := goodIn_app (goodIn_of _ (by decide +kernel)) ggX4_readCell_X4_readNumber
set_option maxRecDepth 20000 in
theorem ggX4_readCell_X4_pass : GoodIn wsX4_readCell wsX4_pass := goodIn_r _ [20, 6, 11, 12, 13, 4, 14, 15, 16, 45, 46, 47] (by decide +kernel) (by decide +kernel)
set_option maxRecDepth 20000 in
theorem gX4_readCell_X4_pass : GoodIn wsX4_readCell (wsV RX4 26 RX4 yX4_pass wsX4_pass) := goodIn_app (goodIn_of _ (by decide +kernel)) ggX4_readCell_X4_pass
set_option maxRecDepth 20000 in
theorem ggX4_readCell_X4_readTableSign : GoodIn wsX4_readCell wsX4_readTableSign := goodIn_r _ [24, 6, 11, 12, 13, 4, 14, 15, 16, 7, 8, 9, 10, 45, 46, 47] (by decide +kernel) (by decide +kernel)
set_option maxRecDepth 20000 in
theorem gX4_readCell_X4_readTableSign : GoodIn wsX4_readCell (wsV RX4 34 RX4 yX4_readTableSign wsX4_readTableSign) := goodIn_app (goodIn_of _ (by decide +kernel)) ggX4_readCell_X4_readTableSign
set_option maxRecDepth 20000 in
theorem ggX4_readCell_X0_changeTable : GoodIn wsX4_readCell wsX0_changeTable := goodIn_r _ [29, 30, 31, 32, 33, 48, 49, 50, 51, 52, 53, 54] (by decide +kernel) (by decide +kernel)
set_option maxRecDepth 20000 in
theorem gX4_readCell_X0_changeTable : GoodIn wsX4_readCell (wsV RX4 38 RX0 yX0_changeTable wsX0_changeTable) := goodIn_app (goodIn_of _ (by decide +kernel)) ggX4_readCell_X0_changeTable
set_option maxRecDepth 20000 in
theorem ggX4_readCell_X4_readSource : GoodIn wsX4_readCell wsX4_readSource := goodIn_r _ [37, 17, 18, 19, 4, 20, 6, 11, 12, 13, 14, 15, 16, 1, 2, 3, 5, 7, 8, 9, 10, 45, 46, 47] (by decide +kernel) (by decide +kernel)
set_option maxRecDepth 20000 in
theorem gX4_readCell_X4_readSource : GoodIn wsX4_readCell (wsV RX4 44 RX4 yX4_readSource wsX4_readSource) := goodIn_app (goodIn_of _ (by decide +kernel)) ggX4_readCell_X4_readSource
set_option maxRecDepth 20000 in
theorem ggX4_readCell_X0_changeSource : GoodIn wsX4_readCell wsX0_changeSource := goodIn_r _ [41, 42, 43, 32, 44, 48, 49, 50, 51, 52, 53, 54] (by decide +kernel) (by decide +kernel)
set_option maxRecDepth 20000 in
theorem gX4_readCell_X0_changeSource : GoodIn wsX4_readCell (wsV RX4 47 RX0 yX0_changeSource wsX0_changeSource) := goodIn_app (goodIn_of _ (by decide +kernel)) ggX4_readCell_X0_changeSource
theorem dX4_readCell_0 : decode cX4_readCell 0 = .ok (.aload_n 0, 1) := by decide +kernel
theorem dX4_readCell_1 : decode cX4_readCell 1 = .ok (.bipush 23, 2) := by decide +kernel
theorem dX4_readCell_3 : decode cX4_readCell 3 = .ok (.invokevirtual 30, 3) := by decide +kernel
theorem dX4_readCell_6 : decode cX4_readCell 6 = .ok (.istore_n 2, 1) := by decide +kernel
theorem dX4_readCell_7 : decode cX4_readCell 7 = .ok (.iload_n 2, 1) := by decide +kernel
theorem dX4_readCell_8 : decode cX4_readCell 8 = .ok (.iconst (-1), 1) := by decide +kernel
theorem dX4_readCell_9 : decode cX4_readCell 9 = .ok (.if_icmp .eq 12, 3) := by decide +kernel
theorem dX4_readCell_12 : decode cX4_readCell 12 = .ok (.aload_n 0, 1) := by decide +kernel
theorem dX4_readCell_13 : decode cX4_readCell 13 = .ok (.bipush 61, 2) := by decide +kernel
theorem dX4_readCell_15 : decode cX4_readCell 15 = .ok (.invokevirtual 26, 3) := by decide +kernel
theorem dX4_readCell_18 : decode cX4_readCell 18 = .ok (.ifCond .ne 5, 3) := by decide +kernel
theorem dX4_readCell_21 : decode cX4_readCell 21 = .ok (.iconst 0, 1) := by decide +kernel
theorem dX4_readCell_22 : decode cX4_readCell 22 = .ok (.ireturn, 1) := by decide +kernel
theorem dX4_readCell_23 : decode cX4_readCell 23 = .ok (.aload_n 0, 1) := by decide +kernel
theorem dX4_readCell_24 : decode cX4_readCell 24 = .ok (.invokevirtual 34, 3) := by decide +kernel
theorem dX4_readCell_27 : decode cX4_readCell 27 = .ok (.istore_n 3, 1) := by decide +kernel
theorem dX4_readCell_28 : decode cX4_readCell 28 = .ok (.iload_n 3, 1) := by decide +kernel
theorem dX4_readCell_29 : decode cX4_readCell 29 = .ok (.iconst (-1), 1) := by decide +kernel
theorem dX4_readCell_30 : decode cX4_readCell 30 = .ok (.if_icmp .ne 7, 3) := by decide +kernel
theorem dX4_readCell_33 : decode cX4_readCell 33 = .ok (.iconst (-1), 1) := by decide +kernel
theorem dX4_readCell_34 : decode cX4_readCell 34 = .ok (.goto 7, 3) := by decide +kernel
theorem dX4_readCell_37 : decode cX4_readCell 37 = .ok (.aload_n 0, 1) := by decide +kernel
theorem dX4_readCell_38 : decode cX4_readCell 38 = .ok (.invokevirtual 34, 3) := by decide +kernel
theorem dX4_readCell_41 : decode cX4_readCell 41 = .ok (.istore 4, 2) := by decide +kernel
theorem dX4_readCell_43 : decode cX4_readCell 43 = .ok (.iload 4, 2) := by decide +kernel
theorem dX4_readCell_45 : decode cX4_readCell 45 = .ok (.iconst (-1), 1) := by decide +kernel
theorem dX4_readCell_46 : decode cX4_readCell 46 = .ok (.if_icmp .ne 5, 3) := by decide +kernel
theorem dX4_readCell_49 : decode cX4_readCell 49 = .ok (.iconst 0, 1) := by decide +kernel
theorem dX4_readCell_50 : decode cX4_readCell 50 = .ok (.ireturn, 1) := by decide +kernel
theorem dX4_readCell_51 : decode cX4_readCell 51 = .ok (.aload_n 1, 1) := by decide +kernel
theorem dX4_readCell_52 : decode cX4_readCell 52 = .ok (.iload_n 2, 1) := by decide +kernel
theorem dX4_readCell_53 : decode cX4_readCell 53 = .ok (.iload_n 3, 1) := by decide +kernel
theorem dX4_readCell_54 : decode cX4_readCell 54 = .ok (.bipush 16, 2) := by decide +kernel
theorem dX4_readCell_56 : decode cX4_readCell 56 = .ok (.imul, 1) := by decide +kernel
theorem dX4_readCell_57 : decode cX4_readCell 57 = .ok (.iload 4, 2) := by decide +kernel
theorem dX4_readCell_59 : decode cX4_readCell 59 = .ok (.iadd, 1) := by decide +kernel
theorem dX4_readCell_60 : decode cX4_readCell 60 = .ok (.invokevirtual 38, 3) := by decide +kernel
theorem dX4_readCell_63 : decode cX4_readCell 63 = .ok (.iconst 0, 1) := by decide +kernel
theorem dX4_readCell_64 : decode cX4_readCell 64 = .ok (.istore 5, 2) := by decide +kernel
theorem dX4_readCell_66 : decode cX4_readCell 66 = .ok (.iload 5, 2) := by decide +kernel
theorem dX4_readCell_68 : decode cX4_readCell 68 = .ok (.iconst 3, 1) := by decide +kernel
theorem dX4_readCell_69 : decode cX4_readCell 69 = .ok (.if_icmp .ge 49, 3) := by decide +kernel
theorem dX4_readCell_72 : decode cX4_readCell 72 = .ok (.aload_n 0, 1) := by decide +kernel
theorem dX4_readCell_73 : decode cX4_readCell 73 = .ok (.bipush 47, 2) := by decide +kernel
theorem dX4_readCell_75 : decode cX4_readCell 75 = .ok (.invokevirtual 26, 3) := by decide +kernel
theorem dX4_readCell_78 : decode cX4_readCell 78 = .ok (.ifCond .eq 10, 3) := by decide +kernel
theorem dX4_readCell_81 : decode cX4_readCell 81 = .ok (.aload_n 0, 1) := by decide +kernel
theorem dX4_readCell_82 : decode cX4_readCell 82 = .ok (.invokevirtual 44, 3) := by decide +kernel
theorem dX4_readCell_85 : decode cX4_readCell 85 = .ok (.goto 5, 3) := by decide +kernel
theorem dX4_readCell_88 : decode cX4_readCell 88 = .ok (.bipush 32, 2) := by decide +kernel
theorem dX4_readCell_90 : decode cX4_readCell 90 = .ok (.istore 6, 2) := by decide +kernel
theorem dX4_readCell_92 : decode cX4_readCell 92 = .ok (.iload 6, 2) := by decide +kernel
theorem dX4_readCell_94 : decode cX4_readCell 94 = .ok (.iconst (-1), 1) := by decide +kernel
theorem dX4_readCell_95 : decode cX4_readCell 95 = .ok (.if_icmp .ne 5, 3) := by decide +kernel
theorem dX4_readCell_98 : decode cX4_readCell 98 = .ok (.iconst 0, 1) := by decide +kernel
theorem dX4_readCell_99 : decode cX4_readCell 99 = .ok (.ireturn, 1) := by decide +kernel
theorem dX4_readCell_100 : decode cX4_readCell 100 = .ok (.aload_n 1, 1) := by decide +kernel
theorem dX4_readCell_101 : decode cX4_readCell 101 = .ok (.iload_n 2, 1) := by decide +kernel
theorem dX4_readCell_102 : decode cX4_readCell 102 = .ok (.iconst 3, 1) := by decide +kernel
theorem dX4_readCell_103 : decode cX4_readCell 103 = .ok (.imul, 1) := by decide +kernel
theorem dX4_readCell_104 : decode cX4_readCell 104 = .ok (.iload 5, 2) := by decide +kernel
theorem dX4_readCell_106 : decode cX4_readCell 106 = .ok (.iadd, 1) := by decide +kernel
theorem dX4_readCell_107 : decode cX4_readCell 107 = .ok (.iload 6, 2) := by decide +kernel
theorem dX4_readCell_109 : decode cX4_readCell 109 = .ok (.invokevirtual 47, 3) := by decide +kernel
theorem dX4_readCell_112 : decode cX4_readCell 112 = .ok (.iinc 5 1, 3) := by decide +kernel
theorem dX4_readCell_115 : decode cX4_readCell 115 = .ok (.goto (-49), 3) := by decide +kernel
theorem dX4_readCell_118 : decode cX4_readCell 118 = .ok (.iconst 1, 1) := by decide +kernel
theorem dX4_readCell_119 : decode cX4_readCell 119 = .ok (.ireturn, 1) := by decide +kernel
set_option maxRecDepth 20000 in
theorem ggX4_readSource_X4_pass : GoodIn wsX4_readSource wsX4_pass := goodIn_r _ [5, 6, 7, 8, 9, 4, 10, 11, 12, 21, 22, 23] (by decide +kernel) (by decide +kernel)
set_option maxRecDepth 20000 in
theorem gX4_readSource_X4_pass : GoodIn wsX4_readSource (wsV RX4 26 RX4 yX4_pass wsX4_pass) := goodIn_app (goodIn_of _ (by decide +kernel)) ggX4_readSource_X4_pass
set_option maxRecDepth 20000 in
theorem ggX4_readSource_X4_readNumber : GoodIn wsX4_readSource wsX4_readNumber := goodIn_r _ [16, 6, 17, 18, 19, 4, 20, 7, 8, 9, 10, 11, 12, 21, 22, 23] (by decide +kernel) (by decide +kernel)
set_option maxRecDepth 20000 in
theorem gX4_readSource_X4_readNumber : GoodIn wsX4_readSource (wsV RX4 30 RX4 yX4_readNumber wsX4_readNumber) := goodIn_app (goodIn_of _ (by decide +kernel)) ggX4_readSource_X4_readNumber
theorem dX4_readSource_0 : decode cX4_readSource 0 = .ok (.aload_n 0, 1) := by decide +kernel
theorem dX4_readSource_1 : decode cX4_readSource 1 = .ok (.bipush 99, 2) := by decide +kernel
theorem dX4_readSource_3 : decode cX4_readSource 3 = .ok (.invokevirtual 26, 3) := by decide +kernel
theorem dX4_readSource_6 : decode cX4_readSource 6 = .ok (.ifCond .eq 10, 3) := by decide +kernel
theorem dX4_readSource_9 : decode cX4_readSource 9 = .ok (.aload_n 0, 1) := by decide +kernel
theorem dX4_readSource_10 : decode cX4_readSource 10 = .ok (.bipush 23, 2) := by decide +kernel
theorem dX4_readSource_12 : decode cX4_readSource 12 = .ok (.invokevirtual 30, 3) := by decide +kernel
theorem dX4_readSource_15 : decode cX4_readSource 15 = .ok (.ireturn, 1) := by decide +kernel
theorem dX4_readSource_16 : decode cX4_readSource 16 = .ok (.aload_n 0, 1) := by decide +kernel
theorem dX4_readSource_17 : decode cX4_readSource 17 = .ok (.bipush 112, 2) := by decide +kernel
theorem dX4_readSource_19 : decode cX4_readSource 19 = .ok (.invokevirtual 26, 3) := by decide +kernel
theorem dX4_readSource_22 : decode cX4_readSource 22 = .ok (.ifCond .eq 24, 3) := by decide +kernel
theorem dX4_readSource_25 : decode cX4_readSource 25 = .ok (.aload_n 0, 1) := by decide +kernel
theorem dX4_readSource_26 : decode cX4_readSource 26 = .ok (.bipush 7, 2) := by decide +kernel
theorem dX4_readSource_28 : decode cX4_readSource 28 = .ok (.invokevirtual 30, 3) := by decide +kernel
theorem dX4_readSource_31 : decode cX4_readSource 31 = .ok (.istore_n 1, 1) := by decide +kernel
theorem dX4_readSource_32 : decode cX4_readSource 32 = .ok (.iload_n 1, 1) := by decide +kernel
theorem dX4_readSource_33 : decode cX4_readSource 33 = .ok (.iconst (-1), 1) := by decide +kernel
theorem dX4_readSource_34 : decode cX4_readSource 34 = .ok (.if_icmp .ne 7, 3) := by decide +kernel
theorem dX4_readSource_37 : decode cX4_readSource 37 = .ok (.iconst (-1), 1) := by decide +kernel
theorem dX4_readSource_38 : decode cX4_readSource 38 = .ok (.goto 7, 3) := by decide +kernel
theorem dX4_readSource_41 : decode cX4_readSource 41 = .ok (.bipush 24, 2) := by decide +kernel
theorem dX4_readSource_43 : decode cX4_readSource 43 = .ok (.iload_n 1, 1) := by decide +kernel
theorem dX4_readSource_44 : decode cX4_readSource 44 = .ok (.iadd, 1) := by decide +kernel
theorem dX4_readSource_45 : decode cX4_readSource 45 = .ok (.ireturn, 1) := by decide +kernel
theorem dX4_readSource_46 : decode cX4_readSource 46 = .ok (.aload_n 0, 1) := by decide +kernel
theorem dX4_readSource_47 : decode cX4_readSource 47 = .ok (.bipush 48, 2) := by decide +kernel
theorem dX4_readSource_49 : decode cX4_readSource 49 = .ok (.invokevirtual 26, 3) := by decide +kernel
theorem dX4_readSource_52 : decode cX4_readSource 52 = .ok (.ifCond .eq 6, 3) := by decide +kernel
theorem dX4_readSource_55 : decode cX4_readSource 55 = .ok (.bipush 32, 2) := by decide +kernel
theorem dX4_readSource_57 : decode cX4_readSource 57 = .ok (.ireturn, 1) := by decide +kernel
theorem dX4_readSource_58 : decode cX4_readSource 58 = .ok (.aload_n 0, 1) := by decide +kernel
theorem dX4_readSource_59 : decode cX4_readSource 59 = .ok (.bipush 49, 2) := by decide +kernel
theorem dX4_readSource_61 : decode cX4_readSource 61 = .ok (.invokevirtual 26, 3) := by decide +kernel
theorem dX4_readSource_64 : decode cX4_readSource 64 = .ok (.ifCond .eq 8, 3) := by decide +kernel
theorem dX4_readSource_67 : decode cX4_readSource 67 = .ok (.bipush 33, 2) := by decide +kernel
theorem dX4_readSource_69 : decode cX4_readSource 69 = .ok (.goto 4, 3) := by decide +kernel
theorem dX4_readSource_72 : decode cX4_readSource 72 = .ok (.iconst (-1), 1) := by decide +kernel
theorem dX4_readSource_73 : decode cX4_readSource 73 = .ok (.ireturn, 1) := by decide +kernel
set_option maxRecDepth 20000 in
theorem ggX4_readNumber_X4_digitHere : GoodIn wsX4_readNumber wsX4_digitHere := goodIn_r _ [6, 7, 8, 9, 5, 10, 1, 11, 12, 13, 14, 15] (by decide +kernel) (by decide +kernel)
set_option maxRecDepth 20000 in
theorem gX4_readNumber_X4_digitHere : GoodIn wsX4_readNumber (wsV RX4 50 RX4 yX4_digitHere wsX4_digitHere) := goodIn_app (goodIn_of _ (by decide +kernel)) ggX4_readNumber_X4_digitHere
theorem dX4_readNumber_0 : decode cX4_readNumber 0 = .ok (.aload_n 0, 1) := by decide +kernel
theorem dX4_readNumber_1 : decode cX4_readNumber 1 = .ok (.invokevirtual 50, 3) := by decide +kernel
theorem dX4_readNumber_4 : decode cX4_readNumber 4 = .ok (.istore_n 2, 1) := by decide +kernel
theorem dX4_readNumber_5 : decode cX4_readNumber 5 = .ok (.iload_n 2, 1) := by decide +kernel
theorem dX4_readNumber_6 : decode cX4_readNumber 6 = .ok (.iconst (-1), 1) := by decide +kernel
theorem dX4_readNumber_7 : decode cX4_readNumber 7 = .ok (.if_icmp .eq 8, 3) := by decide +kernel
theorem dX4_readNumber_10 : decode cX4_readNumber 10 = .ok (.iload_n 2, 1) := by decide +kernel
theorem dX4_readNumber_11 : decode cX4_readNumber 11 = .ok (.iload_n 1, 1) := by decide +kernel
theorem dX4_readNumber_12 : decode cX4_readNumber 12 = .ok (.if_icmp .le 5, 3) := by decide +kernel
theorem dX4_readNumber_15 : decode cX4_readNumber 15 = .ok (.iconst (-1), 1) := by decide +kernel
theorem dX4_readNumber_16 : decode cX4_readNumber 16 = .ok (.ireturn, 1) := by decide +kernel
theorem dX4_readNumber_17 : decode cX4_readNumber 17 = .ok (.aload_n 0, 1) := by decide +kernel
theorem dX4_readNumber_18 : decode cX4_readNumber 18 = .ok (.dup, 1) := by decide +kernel
theorem dX4_readNumber_19 : decode cX4_readNumber 19 = .ok (.getfield 19, 3) := by decide +kernel
theorem dX4_readNumber_22 : decode cX4_readNumber 22 = .ok (.iconst 1, 1) := by decide +kernel
theorem dX4_readNumber_23 : decode cX4_readNumber 23 = .ok (.iadd, 1) := by decide +kernel
theorem dX4_readNumber_24 : decode cX4_readNumber 24 = .ok (.putfield 19, 3) := by decide +kernel
theorem dX4_readNumber_27 : decode cX4_readNumber 27 = .ok (.aload_n 0, 1) := by decide +kernel
theorem dX4_readNumber_28 : decode cX4_readNumber 28 = .ok (.invokevirtual 50, 3) := by decide +kernel
theorem dX4_readNumber_31 : decode cX4_readNumber 31 = .ok (.istore_n 3, 1) := by decide +kernel
theorem dX4_readNumber_32 : decode cX4_readNumber 32 = .ok (.iload_n 2, 1) := by decide +kernel
theorem dX4_readNumber_33 : decode cX4_readNumber 33 = .ok (.ifCond .le 35, 3) := by decide +kernel
theorem dX4_readNumber_36 : decode cX4_readNumber 36 = .ok (.iload_n 3, 1) := by decide +kernel
theorem dX4_readNumber_37 : decode cX4_readNumber 37 = .ok (.iconst (-1), 1) := by decide +kernel
theorem dX4_readNumber_38 : decode cX4_readNumber 38 = .ok (.if_icmp .eq 30, 3) := by decide +kernel
theorem dX4_readNumber_41 : decode cX4_readNumber 41 = .ok (.iload_n 2, 1) := by decide +kernel
theorem dX4_readNumber_42 : decode cX4_readNumber 42 = .ok (.bipush 10, 2) := by decide +kernel
theorem dX4_readNumber_44 : decode cX4_readNumber 44 = .ok (.imul, 1) := by decide +kernel
theorem dX4_readNumber_45 : decode cX4_readNumber 45 = .ok (.iload_n 3, 1) := by decide +kernel
theorem dX4_readNumber_46 : decode cX4_readNumber 46 = .ok (.iadd, 1) := by decide +kernel
theorem dX4_readNumber_47 : decode cX4_readNumber 47 = .ok (.iload_n 1, 1) := by decide +kernel
theorem dX4_readNumber_48 : decode cX4_readNumber 48 = .ok (.if_icmp .gt 20, 3) := by decide +kernel
theorem dX4_readNumber_51 : decode cX4_readNumber 51 = .ok (.iload_n 2, 1) := by decide +kernel
theorem dX4_readNumber_52 : decode cX4_readNumber 52 = .ok (.bipush 10, 2) := by decide +kernel
theorem dX4_readNumber_54 : decode cX4_readNumber 54 = .ok (.imul, 1) := by decide +kernel
theorem dX4_readNumber_55 : decode cX4_readNumber 55 = .ok (.iload_n 3, 1) := by decide +kernel
theorem dX4_readNumber_56 : decode cX4_readNumber 56 = .ok (.iadd, 1) := by decide +kernel
theorem dX4_readNumber_57 : decode cX4_readNumber 57 = .ok (.istore_n 2, 1) := by decide +kernel
theorem dX4_readNumber_58 : decode cX4_readNumber 58 = .ok (.aload_n 0, 1) := by decide +kernel
theorem dX4_readNumber_59 : decode cX4_readNumber 59 = .ok (.dup, 1) := by decide +kernel
theorem dX4_readNumber_60 : decode cX4_readNumber 60 = .ok (.getfield 19, 3) := by decide +kernel
theorem dX4_readNumber_63 : decode cX4_readNumber 63 = .ok (.iconst 1, 1) := by decide +kernel
theorem dX4_readNumber_64 : decode cX4_readNumber 64 = .ok (.iadd, 1) := by decide +kernel
theorem dX4_readNumber_65 : decode cX4_readNumber 65 = .ok (.putfield 19, 3) := by decide +kernel
theorem dX4_readNumber_68 : decode cX4_readNumber 68 = .ok (.iload_n 2, 1) := by decide +kernel
theorem dX4_readNumber_69 : decode cX4_readNumber 69 = .ok (.ireturn, 1) := by decide +kernel
set_option maxRecDepth 20000 in
theorem ggX4_readTableSign_X4_signHere : GoodIn wsX4_readTableSign wsX4_signHere := goodIn_r _ [6, 1, 7, 8, 13, 14, 15] (by decide +kernel) (by decide +kernel)
set_option maxRecDepth 20000 in
theorem gX4_readTableSign_X4_signHere : GoodIn wsX4_readTableSign (wsV RX4 53 RX4 yX4_signHere wsX4_signHere) := goodIn_app (goodIn_of _ (by decide +kernel)) ggX4_readTableSign_X4_signHere
set_option maxRecDepth 20000 in
theorem ggX4_readTableSign_X4_digitHere : GoodIn wsX4_readTableSign wsX4_digitHere := goodIn_r _ [12, 2, 3, 4, 5, 6, 1, 7, 8, 13, 14, 15] (by decide +kernel) (by decide +kernel)
set_option maxRecDepth 20000 in
theorem gX4_readTableSign_X4_digitHere : GoodIn wsX4_readTableSign (wsV RX4 50 RX4 yX4_digitHere wsX4_digitHere) := goodIn_app (goodIn_of _ (by decide +kernel)) ggX4_readTableSign_X4_digitHere
theorem dX4_readTableSign_0 : decode cX4_readTableSign 0 = .ok (.aload_n 0, 1) := by decide +kernel
theorem dX4_readTableSign_1 : decode cX4_readTableSign 1 = .ok (.invokevirtual 53, 3) := by decide +kernel
theorem dX4_readTableSign_4 : decode cX4_readTableSign 4 = .ok (.istore_n 1, 1) := by decide +kernel
theorem dX4_readTableSign_5 : decode cX4_readTableSign 5 = .ok (.iload_n 1, 1) := by decide +kernel
theorem dX4_readTableSign_6 : decode cX4_readTableSign 6 = .ok (.bipush 97, 2) := by decide +kernel
theorem dX4_readTableSign_8 : decode cX4_readTableSign 8 = .ok (.if_icmp .lt 19, 3) := by decide +kernel
theorem dX4_readTableSign_11 : decode cX4_readTableSign 11 = .ok (.iload_n 1, 1) := by decide +kernel
theorem dX4_readTableSign_12 : decode cX4_readTableSign 12 = .ok (.bipush 102, 2) := by decide +kernel
theorem dX4_readTableSign_14 : decode cX4_readTableSign 14 = .ok (.if_icmp .gt 13, 3) := by decide +kernel
theorem dX4_readTableSign_17 : decode cX4_readTableSign 17 = .ok (.iload_n 1, 1) := by decide +kernel
theorem dX4_readTableSign_18 : decode cX4_readTableSign 18 = .ok (.bipush 97, 2) := by decide +kernel
theorem dX4_readTableSign_20 : decode cX4_readTableSign 20 = .ok (.isub, 1) := by decide +kernel
theorem dX4_readTableSign_21 : decode cX4_readTableSign 21 = .ok (.bipush 10, 2) := by decide +kernel
theorem dX4_readTableSign_23 : decode cX4_readTableSign 23 = .ok (.iadd, 1) := by decide +kernel
theorem dX4_readTableSign_24 : decode cX4_readTableSign 24 = .ok (.goto 7, 3) := by decide +kernel
theorem dX4_readTableSign_27 : decode cX4_readTableSign 27 = .ok (.aload_n 0, 1) := by decide +kernel
theorem dX4_readTableSign_28 : decode cX4_readTableSign 28 = .ok (.invokevirtual 50, 3) := by decide +kernel
theorem dX4_readTableSign_31 : decode cX4_readTableSign 31 = .ok (.istore_n 2, 1) := by decide +kernel
theorem dX4_readTableSign_32 : decode cX4_readTableSign 32 = .ok (.iload_n 2, 1) := by decide +kernel
theorem dX4_readTableSign_33 : decode cX4_readTableSign 33 = .ok (.iconst (-1), 1) := by decide +kernel
theorem dX4_readTableSign_34 : decode cX4_readTableSign 34 = .ok (.if_icmp .eq 13, 3) := by decide +kernel
theorem dX4_readTableSign_37 : decode cX4_readTableSign 37 = .ok (.aload_n 0, 1) := by decide +kernel
theorem dX4_readTableSign_38 : decode cX4_readTableSign 38 = .ok (.dup, 1) := by decide +kernel
theorem dX4_readTableSign_39 : decode cX4_readTableSign 39 = .ok (.getfield 19, 3) := by decide +kernel
theorem dX4_readTableSign_42 : decode cX4_readTableSign 42 = .ok (.iconst 1, 1) := by decide +kernel
theorem dX4_readTableSign_43 : decode cX4_readTableSign 43 = .ok (.iadd, 1) := by decide +kernel
theorem dX4_readTableSign_44 : decode cX4_readTableSign 44 = .ok (.putfield 19, 3) := by decide +kernel
theorem dX4_readTableSign_47 : decode cX4_readTableSign 47 = .ok (.iload_n 2, 1) := by decide +kernel
theorem dX4_readTableSign_48 : decode cX4_readTableSign 48 = .ok (.ireturn, 1) := by decide +kernel
set_option maxRecDepth 20000 in
theorem ggX4_digitHere_X4_signHere : GoodIn wsX4_digitHere wsX4_signHere := goodIn_r _ [5, 6, 7, 8, 9, 10, 11] (by decide +kernel) (by decide +kernel)
set_option maxRecDepth 20000 in
theorem gX4_digitHere_X4_signHere : GoodIn wsX4_digitHere (wsV RX4 53 RX4 yX4_signHere wsX4_signHere) := goodIn_app (goodIn_of _ (by decide +kernel)) ggX4_digitHere_X4_signHere
theorem dX4_digitHere_0 : decode cX4_digitHere 0 = .ok (.aload_n 0, 1) := by decide +kernel
theorem dX4_digitHere_1 : decode cX4_digitHere 1 = .ok (.invokevirtual 53, 3) := by decide +kernel
theorem dX4_digitHere_4 : decode cX4_digitHere 4 = .ok (.istore_n 1, 1) := by decide +kernel
theorem dX4_digitHere_5 : decode cX4_digitHere 5 = .ok (.iload_n 1, 1) := by decide +kernel
theorem dX4_digitHere_6 : decode cX4_digitHere 6 = .ok (.bipush 48, 2) := by decide +kernel
theorem dX4_digitHere_8 : decode cX4_digitHere 8 = .ok (.if_icmp .lt 16, 3) := by decide +kernel
theorem dX4_digitHere_11 : decode cX4_digitHere 11 = .ok (.iload_n 1, 1) := by decide +kernel
theorem dX4_digitHere_12 : decode cX4_digitHere 12 = .ok (.bipush 57, 2) := by decide +kernel
theorem dX4_digitHere_14 : decode cX4_digitHere 14 = .ok (.if_icmp .gt 10, 3) := by decide +kernel
theorem dX4_digitHere_17 : decode cX4_digitHere 17 = .ok (.iload_n 1, 1) := by decide +kernel
theorem dX4_digitHere_18 : decode cX4_digitHere 18 = .ok (.bipush 48, 2) := by decide +kernel
theorem dX4_digitHere_20 : decode cX4_digitHere 20 = .ok (.isub, 1) := by decide +kernel
theorem dX4_digitHere_21 : decode cX4_digitHere 21 = .ok (.goto 4, 3) := by decide +kernel
theorem dX4_digitHere_24 : decode cX4_digitHere 24 = .ok (.iconst (-1), 1) := by decide +kernel
theorem dX4_digitHere_25 : decode cX4_digitHere 25 = .ok (.ireturn, 1) := by decide +kernel
set_option maxRecDepth 20000 in
theorem ggX4_pass_X4_signHere : GoodIn wsX4_pass wsX4_signHere := goodIn_r _ [6, 1, 7, 8, 9, 10, 11] (by decide +kernel) (by decide +kernel)
set_option maxRecDepth 20000 in
theorem gX4_pass_X4_signHere : GoodIn wsX4_pass (wsV RX4 53 RX4 yX4_signHere wsX4_signHere) := goodIn_app (goodIn_of _ (by decide +kernel)) ggX4_pass_X4_signHere
theorem dX4_pass_0 : decode cX4_pass 0 = .ok (.aload_n 0, 1) := by decide +kernel
theorem dX4_pass_1 : decode cX4_pass 1 = .ok (.invokevirtual 53, 3) := by decide +kernel
theorem dX4_pass_4 : decode cX4_pass 4 = .ok (.iload_n 1, 1) := by decide +kernel
theorem dX4_pass_5 : decode cX4_pass 5 = .ok (.if_icmp .eq 5, 3) := by decide +kernel
theorem dX4_pass_8 : decode cX4_pass 8 = .ok (.iconst 0, 1) := by decide +kernel
theorem dX4_pass_9 : decode cX4_pass 9 = .ok (.ireturn, 1) := by decide +kernel
theorem dX4_pass_10 : decode cX4_pass 10 = .ok (.aload_n 0, 1) := by decide +kernel
theorem dX4_pass_11 : decode cX4_pass 11 = .ok (.dup, 1) := by decide +kernel
theorem dX4_pass_12 : decode cX4_pass 12 = .ok (.getfield 19, 3) := by decide +kernel
theorem dX4_pass_15 : decode cX4_pass 15 = .ok (.iconst 1, 1) := by decide +kernel
theorem dX4_pass_16 : decode cX4_pass 16 = .ok (.iadd, 1) := by decide +kernel
theorem dX4_pass_17 : decode cX4_pass 17 = .ok (.putfield 19, 3) := by decide +kernel
theorem dX4_pass_20 : decode cX4_pass 20 = .ok (.iconst 1, 1) := by decide +kernel
theorem dX4_pass_21 : decode cX4_pass 21 = .ok (.ireturn, 1) := by decide +kernel
theorem dX4_signHere_0 : decode cX4_signHere 0 = .ok (.aload_n 0, 1) := by decide +kernel
theorem dX4_signHere_1 : decode cX4_signHere 1 = .ok (.getfield 19, 3) := by decide +kernel
theorem dX4_signHere_4 : decode cX4_signHere 4 = .ok (.ifCond .lt 38, 3) := by decide +kernel
theorem dX4_signHere_7 : decode cX4_signHere 7 = .ok (.aload_n 0, 1) := by decide +kernel
theorem dX4_signHere_8 : decode cX4_signHere 8 = .ok (.getfield 19, 3) := by decide +kernel
theorem dX4_signHere_11 : decode cX4_signHere 11 = .ok (.aload_n 0, 1) := by decide +kernel
theorem dX4_signHere_12 : decode cX4_signHere 12 = .ok (.getfield 15, 3) := by decide +kernel
theorem dX4_signHere_15 : decode cX4_signHere 15 = .ok (.if_icmp .ge 27, 3) := by decide +kernel
theorem dX4_signHere_18 : decode cX4_signHere 18 = .ok (.aload_n 0, 1) := by decide +kernel
theorem dX4_signHere_19 : decode cX4_signHere 19 = .ok (.getfield 19, 3) := by decide +kernel
theorem dX4_signHere_22 : decode cX4_signHere 22 = .ok (.aload_n 0, 1) := by decide +kernel
theorem dX4_signHere_23 : decode cX4_signHere 23 = .ok (.getfield 9, 3) := by decide +kernel
theorem dX4_signHere_26 : decode cX4_signHere 26 = .ok (.arraylength, 1) := by decide +kernel
theorem dX4_signHere_27 : decode cX4_signHere 27 = .ok (.if_icmp .ge 15, 3) := by decide +kernel
theorem dX4_signHere_30 : decode cX4_signHere 30 = .ok (.aload_n 0, 1) := by decide +kernel
theorem dX4_signHere_31 : decode cX4_signHere 31 = .ok (.getfield 9, 3) := by decide +kernel
theorem dX4_signHere_34 : decode cX4_signHere 34 = .ok (.aload_n 0, 1) := by decide +kernel
theorem dX4_signHere_35 : decode cX4_signHere 35 = .ok (.getfield 19, 3) := by decide +kernel
theorem dX4_signHere_38 : decode cX4_signHere 38 = .ok (.caload, 1) := by decide +kernel
theorem dX4_signHere_39 : decode cX4_signHere 39 = .ok (.goto 4, 3) := by decide +kernel
theorem dX4_signHere_42 : decode cX4_signHere 42 = .ok (.iconst (-1), 1) := by decide +kernel
theorem dX4_signHere_43 : decode cX4_signHere 43 = .ok (.ireturn, 1) := by decide +kernel
end
section
set_option maxRecDepth 20000 in
theorem ggX5_init_X0_init : GoodIn wsX5_init wsX0_init := goodIn_r _ [29, 30, 2, 3, 31, 32, 33, 34, 35, 36, 37, 38, 39, 40, 41, 42, 69, 70, 71, 72, 73, 74, 75] (by decide +kernel) (by decide +kernel)
set_option maxRecDepth 20000 in
theorem gX5_init_X0_init : GoodIn wsX5_init (wsX0_init) := ggX5_init_X0_init
set_option maxRecDepth 20000 in
theorem ggX5_init_X1_init : GoodIn wsX5_init wsX1_init := goodIn_r _ [45, 46, 2, 3, 47, 48, 49, 5, 6, 50, 28, 29, 30, 31, 32, 33, 34, 35, 36, 37, 38, 39, 40, 41, 42, 84, 85, 69, 70, 71, 72, 73, 74, 75] (by decide +kernel) (by decide +kernel)
set_option maxRecDepth 20000 in
theorem gX5_init_X1_init : GoodIn wsX5_init (wsX1_init) := ggX5_init_X1_init
set_option maxRecDepth 20000 in
theorem ggX5_init_X2_init : GoodIn wsX5_init wsX2_init := goodIn_r _ [52, 53, 2, 3, 31, 54, 86] (by decide +kernel) (by decide +kernel)
set_option maxRecDepth 20000 in
theorem gX5_init_X2_init_n31 : GoodIn wsX5_init (wsX2_init) := ggX5_init_X2_init
set_option maxRecDepth 20000 in
theorem ggX5_init_X3_init : GoodIn wsX5_init wsX3_init := goodIn_r _ [56, 57, 2, 3, 31, 58, 59, 60, 61, 87, 88, 89, 90] (by decide +kernel) (by decide +kernel)
set_option maxRecDepth 20000 in
theorem gX5_init_X3_init_n38 : GoodIn wsX5_init (wsX3_init) := ggX5_init_X3_init
set_option maxRecDepth 20000 in
theorem ggX5_init_X4_init : GoodIn wsX5_init wsX4_init := goodIn_r _ [63, 64, 2, 3, 65, 66, 67, 68, 91, 92, 93] (by decide +kernel) (by decide +kernel)
set_option maxRecDepth 20000 in
theorem gX5_init_X4_init_n45 : GoodIn wsX5_init (wsX4_init) := ggX5_init_X4_init
theorem dX5_init_0 : decode cX5_init 0 = .ok (.aload_n 0, 1) := by decide +kernel
theorem dX5_init_1 : decode cX5_init 1 = .ok (.invokespecial 1, 3) := by decide +kernel
theorem dX5_init_4 : decode cX5_init 4 = .ok (.aload_n 0, 1) := by decide +kernel
theorem dX5_init_5 : decode cX5_init 5 = .ok (.new 7, 3) := by decide +kernel
theorem dX5_init_8 : decode cX5_init 8 = .ok (.dup, 1) := by decide +kernel
theorem dX5_init_9 : decode cX5_init 9 = .ok (.invokespecial 9, 3) := by decide +kernel
theorem dX5_init_12 : decode cX5_init 12 = .ok (.putfield 10, 3) := by decide +kernel
theorem dX5_init_15 : decode cX5_init 15 = .ok (.aload_n 0, 1) := by decide +kernel
theorem dX5_init_16 : decode cX5_init 16 = .ok (.new 7, 3) := by decide +kernel
theorem dX5_init_19 : decode cX5_init 19 = .ok (.dup, 1) := by decide +kernel
theorem dX5_init_20 : decode cX5_init 20 = .ok (.invokespecial 9, 3) := by decide +kernel
theorem dX5_init_23 : decode cX5_init 23 = .ok (.putfield 16, 3) := by decide +kernel
theorem dX5_init_26 : decode cX5_init 26 = .ok (.aload_n 0, 1) := by decide +kernel
theorem dX5_init_27 : decode cX5_init 27 = .ok (.new 7, 3) := by decide +kernel
theorem dX5_init_30 : decode cX5_init 30 = .ok (.dup, 1) := by decide +kernel
theorem dX5_init_31 : decode cX5_init 31 = .ok (.invokespecial 9, 3) := by decide +kernel
theorem dX5_init_34 : decode cX5_init 34 = .ok (.putfield 19, 3) := by decide +kernel
theorem dX5_init_37 : decode cX5_init 37 = .ok (.aload_n 0, 1) := by decide +kernel
theorem dX5_init_38 : decode cX5_init 38 = .ok (.new 22, 3) := by decide +kernel
theorem dX5_init_41 : decode cX5_init 41 = .ok (.dup, 1) := by decide +kernel
theorem dX5_init_42 : decode cX5_init 42 = .ok (.invokespecial 24, 3) := by decide +kernel
theorem dX5_init_45 : decode cX5_init 45 = .ok (.putfield 25, 3) := by decide +kernel
theorem dX5_init_48 : decode cX5_init 48 = .ok (.aload_n 0, 1) := by decide +kernel
theorem dX5_init_49 : decode cX5_init 49 = .ok (.new 29, 3) := by decide +kernel
theorem dX5_init_52 : decode cX5_init 52 = .ok (.dup, 1) := by decide +kernel
theorem dX5_init_53 : decode cX5_init 53 = .ok (.invokespecial 31, 3) := by decide +kernel
theorem dX5_init_56 : decode cX5_init 56 = .ok (.putfield 32, 3) := by decide +kernel
theorem dX5_init_59 : decode cX5_init 59 = .ok (.aload_n 0, 1) := by decide +kernel
theorem dX5_init_60 : decode cX5_init 60 = .ok (.new 36, 3) := by decide +kernel
theorem dX5_init_63 : decode cX5_init 63 = .ok (.dup, 1) := by decide +kernel
theorem dX5_init_64 : decode cX5_init 64 = .ok (.invokespecial 38, 3) := by decide +kernel
theorem dX5_init_67 : decode cX5_init 67 = .ok (.putfield 39, 3) := by decide +kernel
theorem dX5_init_70 : decode cX5_init 70 = .ok (.aload_n 0, 1) := by decide +kernel
theorem dX5_init_71 : decode cX5_init 71 = .ok (.new 43, 3) := by decide +kernel
theorem dX5_init_74 : decode cX5_init 74 = .ok (.dup, 1) := by decide +kernel
theorem dX5_init_75 : decode cX5_init 75 = .ok (.invokespecial 45, 3) := by decide +kernel
theorem dX5_init_78 : decode cX5_init 78 = .ok (.putfield 46, 3) := by decide +kernel
theorem dX5_init_81 : decode cX5_init 81 = .ok (.aload_n 0, 1) := by decide +kernel
theorem dX5_init_82 : decode cX5_init 82 = .ok (.iconst 0, 1) := by decide +kernel
theorem dX5_init_83 : decode cX5_init 83 = .ok (.putfield 50, 3) := by decide +kernel
theorem dX5_init_86 : decode cX5_init 86 = .ok (.return_, 1) := by decide +kernel
set_option maxRecDepth 20000 in
theorem ggX5_put_X5_isPlace : GoodIn wsX5_put wsX5_isPlace := goodIn_r _ [6] (by decide +kernel) (by decide +kernel)
set_option maxRecDepth 20000 in
theorem gX5_put_X5_isPlace : GoodIn wsX5_put (va_wsS RX5 54 yX5_isPlace wsX5_isPlace) := goodIn_app (goodIn_of _ (by decide +kernel)) ggX5_put_X5_isPlace
set_option maxRecDepth 20000 in
theorem ggX5_put_X5_isTable : GoodIn wsX5_put wsX5_isTable := goodIn_r _ [9] (by decide +kernel) (by decide +kernel)
set_option maxRecDepth 20000 in
theorem gX5_put_X5_isTable : GoodIn wsX5_put (va_wsS RX5 58 yX5_isTable wsX5_isTable) := goodIn_app (goodIn_of _ (by decide +kernel)) ggX5_put_X5_isTable
set_option maxRecDepth 20000 in
theorem ggX5_put_X0_hasCell : GoodIn wsX5_put wsX0_hasCell := goodIn_r _ [14, 15, 4, 5, 6, 62, 63, 64, 65, 66, 67, 68] (by decide +kernel) (by decide +kernel)
set_option maxRecDepth 20000 in
theorem gX5_put_X0_hasCell : GoodIn wsX5_put (wsV RX5 61 RX0 yX0_hasCell wsX0_hasCell) := goodIn_app (goodIn_of _ (by decide +kernel)) ggX5_put_X0_hasCell
set_option maxRecDepth 20000 in
theorem ggX5_put_X1_remember : GoodIn wsX5_put wsX1_remember := goodIn_r _ [20, 21, 22, 23, 24, 19, 25, 26, 27, 28, 29, 30, 31, 32, 33, 13, 34, 15, 35, 36, 37, 38, 39, 40, 41, 42, 43, 44, 69, 70, 62, 63, 64, 65, 66, 67, 68] (by decide +kernel) (by decide +kernel)
set_option maxRecDepth 20000 in
theorem gX5_put_X1_remember : GoodIn wsX5_put (wsV RX5 64 RX1 yX1_remember wsX1_remember) := goodIn_app (goodIn_of _ (by decide +kernel)) ggX5_put_X1_remember
set_option maxRecDepth 20000 in
theorem ggX5_put_X0_changeTable : GoodIn wsX5_put wsX0_changeTable := goodIn_r _ [48, 15, 4, 5, 6, 62, 63, 64, 65, 66, 67, 68] (by decide +kernel) (by decide +kernel)
set_option maxRecDepth 20000 in
theorem gX5_put_X0_changeTable : GoodIn wsX5_put (wsV RX5 68 RX0 yX0_changeTable wsX0_changeTable) := goodIn_app (goodIn_of _ (by decide +kernel)) ggX5_put_X0_changeTable
set_option maxRecDepth 20000 in
theorem ggX5_put_X0_cells : GoodIn wsX5_put wsX0_cells := goodIn_r _ [52, 53, 11, 12, 13, 14, 15, 4, 5, 6, 62, 63, 64, 65, 66, 67, 68] (by decide +kernel) (by decide +kernel)
set_option maxRecDepth 20000 in
theorem gX5_put_X0_cells : GoodIn wsX5_put (wsV RX5 72 RX0 yX0_cells wsX0_cells) := goodIn_app (goodIn_of _ (by decide +kernel)) ggX5_put_X0_cells
theorem dX5_put_0 : decode cX5_put 0 = .ok (.iload_n 1, 1) := by decide +kernel
theorem dX5_put_1 : decode cX5_put 1 = .ok (.invokestatic 54, 3) := by decide +kernel
theorem dX5_put_4 : decode cX5_put 4 = .ok (.ifCond .ne 5, 3) := by decide +kernel
theorem dX5_put_7 : decode cX5_put 7 = .ok (.iconst (-1), 1) := by decide +kernel
theorem dX5_put_8 : decode cX5_put 8 = .ok (.ireturn, 1) := by decide +kernel
theorem dX5_put_9 : decode cX5_put 9 = .ok (.iload_n 2, 1) := by decide +kernel
theorem dX5_put_10 : decode cX5_put 10 = .ok (.invokestatic 58, 3) := by decide +kernel
theorem dX5_put_13 : decode cX5_put 13 = .ok (.ifCond .ne 6, 3) := by decide +kernel
theorem dX5_put_16 : decode cX5_put 16 = .ok (.bipush (-2), 2) := by decide +kernel
theorem dX5_put_18 : decode cX5_put 18 = .ok (.ireturn, 1) := by decide +kernel
theorem dX5_put_19 : decode cX5_put 19 = .ok (.aload_n 0, 1) := by decide +kernel
theorem dX5_put_20 : decode cX5_put 20 = .ok (.getfield 10, 3) := by decide +kernel
theorem dX5_put_23 : decode cX5_put 23 = .ok (.iload_n 1, 1) := by decide +kernel
theorem dX5_put_24 : decode cX5_put 24 = .ok (.invokevirtual 61, 3) := by decide +kernel
theorem dX5_put_27 : decode cX5_put 27 = .ok (.ifCond .eq 6, 3) := by decide +kernel
theorem dX5_put_30 : decode cX5_put 30 = .ok (.bipush (-4), 2) := by decide +kernel
theorem dX5_put_32 : decode cX5_put 32 = .ok (.ireturn, 1) := by decide +kernel
theorem dX5_put_33 : decode cX5_put 33 = .ok (.aload_n 0, 1) := by decide +kernel
theorem dX5_put_34 : decode cX5_put 34 = .ok (.getfield 25, 3) := by decide +kernel
theorem dX5_put_37 : decode cX5_put 37 = .ok (.aload_n 0, 1) := by decide +kernel
theorem dX5_put_38 : decode cX5_put 38 = .ok (.getfield 10, 3) := by decide +kernel
theorem dX5_put_41 : decode cX5_put 41 = .ok (.invokevirtual 64, 3) := by decide +kernel
theorem dX5_put_44 : decode cX5_put 44 = .ok (.aload_n 0, 1) := by decide +kernel
theorem dX5_put_45 : decode cX5_put 45 = .ok (.getfield 10, 3) := by decide +kernel
theorem dX5_put_48 : decode cX5_put 48 = .ok (.iload_n 1, 1) := by decide +kernel
theorem dX5_put_49 : decode cX5_put 49 = .ok (.iload_n 2, 1) := by decide +kernel
theorem dX5_put_50 : decode cX5_put 50 = .ok (.invokevirtual 68, 3) := by decide +kernel
theorem dX5_put_53 : decode cX5_put 53 = .ok (.aload_n 0, 1) := by decide +kernel
theorem dX5_put_54 : decode cX5_put 54 = .ok (.getfield 10, 3) := by decide +kernel
theorem dX5_put_57 : decode cX5_put 57 = .ok (.invokevirtual 72, 3) := by decide +kernel
theorem dX5_put_60 : decode cX5_put 60 = .ok (.ireturn, 1) := by decide +kernel
set_option maxRecDepth 20000 in
theorem ggX5_take_X0_hasCell : GoodIn wsX5_take wsX0_hasCell := goodIn_r _ [7, 8, 9, 10, 11, 101, 102, 103, 104, 105, 106, 107] (by decide +kernel) (by decide +kernel)
set_option maxRecDepth 20000 in
theorem gX5_take_X0_hasCell : GoodIn wsX5_take (wsV RX5 61 RX0 yX0_hasCell wsX0_hasCell) := goodIn_app (goodIn_of _ (by decide +kernel)) ggX5_take_X0_hasCell
set_option maxRecDepth 20000 in
theorem ggX5_take_X0_usesByOthers : GoodIn wsX5_take wsX0_usesByOthers := goodIn_r _ [15, 16, 17, 18, 6, 19, 20, 21, 22, 23, 24, 25, 10, 26, 101, 102, 103, 104, 105, 106, 107] (by decide +kernel) (by decide +kernel)
set_option maxRecDepth 20000 in
theorem gX5_take_X0_usesByOthers : GoodIn wsX5_take (wsV RX5 76 RX0 yX0_usesByOthers wsX0_usesByOthers) := goodIn_app (goodIn_of _ (by decide +kernel)) ggX5_take_X0_usesByOthers
set_option maxRecDepth 20000 in
theorem ggX5_take_X1_remember : GoodIn wsX5_take wsX1_remember := goodIn_r _ [31, 32, 33, 34, 35, 30, 36, 37, 38, 39, 40, 41, 42, 43, 44, 6, 45, 8, 46, 47, 48, 49, 20, 50, 51, 52, 53, 54, 108, 109, 101, 102, 103, 104, 105, 106, 107] (by decide +kernel) (by decide +kernel)
set_option maxRecDepth 20000 in
theorem gX5_take_X1_remember : GoodIn wsX5_take (wsV RX5 64 RX1 yX1_remember wsX1_remember) := goodIn_app (goodIn_of _ (by decide +kernel)) ggX5_take_X1_remember
set_option maxRecDepth 20000 in
theorem ggX5_take_X0_removeCell : GoodIn wsX5_take wsX0_removeCell := goodIn_r _ [58, 59, 60, 61, 6, 62, 52, 50, 63, 64, 65, 66, 25, 10, 26, 67, 68, 69, 70, 51, 21, 22, 23, 24, 20, 71, 72, 73, 74, 75, 76, 9, 11, 77, 78, 79, 80, 81, 82, 83, 84, 85, 86, 87, 8, 101, 102, 103, 104, 105, 106, 107] (by decide +kernel) (by decide +kernel)
set_option maxRecDepth 20000 in
theorem gX5_take_X0_removeCell : GoodIn wsX5_take (wsV RX5 80 RX0 yX0_removeCell wsX0_removeCell) := goodIn_app (goodIn_of _ (by decide +kernel)) ggX5_take_X0_removeCell
set_option maxRecDepth 20000 in
theorem ggX5_take_X0_cells : GoodIn wsX5_take wsX0_cells := goodIn_r _ [91, 92, 4, 5, 6, 7, 8, 9, 10, 11, 101, 102, 103, 104, 105, 106, 107] (by decide +kernel) (by decide +kernel)
set_option maxRecDepth 20000 in
theorem gX5_take_X0_cells : GoodIn wsX5_take (wsV RX5 72 RX0 yX0_cells wsX0_cells) := goodIn_app (goodIn_of _ (by decide +kernel)) ggX5_take_X0_cells
theorem dX5_take_0 : decode cX5_take 0 = .ok (.aload_n 0, 1) := by decide +kernel
theorem dX5_take_1 : decode cX5_take 1 = .ok (.getfield 10, 3) := by decide +kernel
theorem dX5_take_4 : decode cX5_take 4 = .ok (.iload_n 1, 1) := by decide +kernel
theorem dX5_take_5 : decode cX5_take 5 = .ok (.invokevirtual 61, 3) := by decide +kernel
theorem dX5_take_8 : decode cX5_take 8 = .ok (.ifCond .ne 5, 3) := by decide +kernel
theorem dX5_take_11 : decode cX5_take 11 = .ok (.iconst (-1), 1) := by decide +kernel
theorem dX5_take_12 : decode cX5_take 12 = .ok (.ireturn, 1) := by decide +kernel
theorem dX5_take_13 : decode cX5_take 13 = .ok (.aload_n 0, 1) := by decide +kernel
theorem dX5_take_14 : decode cX5_take 14 = .ok (.getfield 10, 3) := by decide +kernel
theorem dX5_take_17 : decode cX5_take 17 = .ok (.iload_n 1, 1) := by decide +kernel
theorem dX5_take_18 : decode cX5_take 18 = .ok (.invokevirtual 76, 3) := by decide +kernel
theorem dX5_take_21 : decode cX5_take 21 = .ok (.ifCond .le 6, 3) := by decide +kernel
theorem dX5_take_24 : decode cX5_take 24 = .ok (.bipush (-4), 2) := by decide +kernel
theorem dX5_take_26 : decode cX5_take 26 = .ok (.ireturn, 1) := by decide +kernel
theorem dX5_take_27 : decode cX5_take 27 = .ok (.aload_n 0, 1) := by decide +kernel
theorem dX5_take_28 : decode cX5_take 28 = .ok (.getfield 25, 3) := by decide +kernel
theorem dX5_take_31 : decode cX5_take 31 = .ok (.aload_n 0, 1) := by decide +kernel
theorem dX5_take_32 : decode cX5_take 32 = .ok (.getfield 10, 3) := by decide +kernel
theorem dX5_take_35 : decode cX5_take 35 = .ok (.invokevirtual 64, 3) := by decide +kernel
theorem dX5_take_38 : decode cX5_take 38 = .ok (.aload_n 0, 1) := by decide +kernel
theorem dX5_take_39 : decode cX5_take 39 = .ok (.getfield 10, 3) := by decide +kernel
theorem dX5_take_42 : decode cX5_take 42 = .ok (.iload_n 1, 1) := by decide +kernel
theorem dX5_take_43 : decode cX5_take 43 = .ok (.invokevirtual 80, 3) := by decide +kernel
theorem dX5_take_46 : decode cX5_take 46 = .ok (.aload_n 0, 1) := by decide +kernel
theorem dX5_take_47 : decode cX5_take 47 = .ok (.getfield 10, 3) := by decide +kernel
theorem dX5_take_50 : decode cX5_take 50 = .ok (.invokevirtual 72, 3) := by decide +kernel
theorem dX5_take_53 : decode cX5_take 53 = .ok (.ireturn, 1) := by decide +kernel
set_option maxRecDepth 20000 in
theorem ggX5_setTable_X0_hasCell : GoodIn wsX5_setTable wsX0_hasCell := goodIn_r _ [7, 8, 9, 10, 11, 60, 61, 62, 63, 64, 65, 66] (by decide +kernel) (by decide +kernel)
set_option maxRecDepth 20000 in
theorem gX5_setTable_X0_hasCell : GoodIn wsX5_setTable (wsV RX5 61 RX0 yX0_hasCell wsX0_hasCell) := goodIn_app (goodIn_of _ (by decide +kernel)) ggX5_setTable_X0_hasCell
set_option maxRecDepth 20000 in
theorem ggX5_setTable_X5_isTable : GoodIn wsX5_setTable wsX5_isTable := goodIn_r _ [14] (by decide +kernel) (by decide +kernel)
set_option maxRecDepth 20000 in
theorem gX5_setTable_X5_isTable : GoodIn wsX5_setTable (va_wsS RX5 58 yX5_isTable wsX5_isTable) := goodIn_app (goodIn_of _ (by decide +kernel)) ggX5_setTable_X5_isTable
set_option maxRecDepth 20000 in
theorem ggX5_setTable_X0_tableOf : GoodIn wsX5_setTable wsX0_tableOf := goodIn_r _ [18, 8, 9, 10, 11, 60, 61, 62, 63, 64, 65, 66] (by decide +kernel) (by decide +kernel)
set_option maxRecDepth 20000 in
theorem gX5_setTable_X0_tableOf : GoodIn wsX5_setTable (wsV RX5 84 RX0 yX0_tableOf wsX0_tableOf) := goodIn_app (goodIn_of _ (by decide +kernel)) ggX5_setTable_X0_tableOf
set_option maxRecDepth 20000 in
theorem ggX5_setTable_X1_remember : GoodIn wsX5_setTable wsX1_remember := goodIn_r _ [23, 24, 25, 26, 27, 22, 28, 29, 30, 31, 32, 33, 34, 35, 36, 6, 37, 8, 38, 39, 40, 41, 42, 43, 44, 45, 46, 47, 67, 68, 60, 61, 62, 63, 64, 65, 66] (by decide +kernel) (by decide +kernel)
set_option maxRecDepth 20000 in
theorem gX5_setTable_X1_remember : GoodIn wsX5_setTable (wsV RX5 64 RX1 yX1_remember wsX1_remember) := goodIn_app (goodIn_of _ (by decide +kernel)) ggX5_setTable_X1_remember
set_option maxRecDepth 20000 in
theorem ggX5_setTable_X0_changeTable : GoodIn wsX5_setTable wsX0_changeTable := goodIn_r _ [51, 8, 9, 10, 11, 60, 61, 62, 63, 64, 65, 66] (by decide +kernel) (by decide +kernel)
set_option maxRecDepth 20000 in
theorem gX5_setTable_X0_changeTable : GoodIn wsX5_setTable (wsV RX5 68 RX0 yX0_changeTable wsX0_changeTable) := goodIn_app (goodIn_of _ (by decide +kernel)) ggX5_setTable_X0_changeTable
theorem dX5_setTable_0 : decode cX5_setTable 0 = .ok (.aload_n 0, 1) := by decide +kernel
theorem dX5_setTable_1 : decode cX5_setTable 1 = .ok (.getfield 10, 3) := by decide +kernel
theorem dX5_setTable_4 : decode cX5_setTable 4 = .ok (.iload_n 1, 1) := by decide +kernel
theorem dX5_setTable_5 : decode cX5_setTable 5 = .ok (.invokevirtual 61, 3) := by decide +kernel
theorem dX5_setTable_8 : decode cX5_setTable 8 = .ok (.ifCond .ne 5, 3) := by decide +kernel
theorem dX5_setTable_11 : decode cX5_setTable 11 = .ok (.iconst (-1), 1) := by decide +kernel
theorem dX5_setTable_12 : decode cX5_setTable 12 = .ok (.ireturn, 1) := by decide +kernel
theorem dX5_setTable_13 : decode cX5_setTable 13 = .ok (.iload_n 2, 1) := by decide +kernel
theorem dX5_setTable_14 : decode cX5_setTable 14 = .ok (.invokestatic 58, 3) := by decide +kernel
theorem dX5_setTable_17 : decode cX5_setTable 17 = .ok (.ifCond .ne 6, 3) := by decide +kernel
theorem dX5_setTable_20 : decode cX5_setTable 20 = .ok (.bipush (-2), 2) := by decide +kernel
theorem dX5_setTable_22 : decode cX5_setTable 22 = .ok (.ireturn, 1) := by decide +kernel
theorem dX5_setTable_23 : decode cX5_setTable 23 = .ok (.aload_n 0, 1) := by decide +kernel
theorem dX5_setTable_24 : decode cX5_setTable 24 = .ok (.getfield 10, 3) := by decide +kernel
theorem dX5_setTable_27 : decode cX5_setTable 27 = .ok (.iload_n 1, 1) := by decide +kernel
theorem dX5_setTable_28 : decode cX5_setTable 28 = .ok (.invokevirtual 84, 3) := by decide +kernel
theorem dX5_setTable_31 : decode cX5_setTable 31 = .ok (.istore_n 3, 1) := by decide +kernel
theorem dX5_setTable_32 : decode cX5_setTable 32 = .ok (.iload_n 3, 1) := by decide +kernel
theorem dX5_setTable_33 : decode cX5_setTable 33 = .ok (.iload_n 2, 1) := by decide +kernel
theorem dX5_setTable_34 : decode cX5_setTable 34 = .ok (.if_icmp .ne 6, 3) := by decide +kernel
theorem dX5_setTable_37 : decode cX5_setTable 37 = .ok (.bipush (-5), 2) := by decide +kernel
theorem dX5_setTable_39 : decode cX5_setTable 39 = .ok (.ireturn, 1) := by decide +kernel
theorem dX5_setTable_40 : decode cX5_setTable 40 = .ok (.aload_n 0, 1) := by decide +kernel
theorem dX5_setTable_41 : decode cX5_setTable 41 = .ok (.getfield 25, 3) := by decide +kernel
theorem dX5_setTable_44 : decode cX5_setTable 44 = .ok (.aload_n 0, 1) := by decide +kernel
theorem dX5_setTable_45 : decode cX5_setTable 45 = .ok (.getfield 10, 3) := by decide +kernel
theorem dX5_setTable_48 : decode cX5_setTable 48 = .ok (.invokevirtual 64, 3) := by decide +kernel
theorem dX5_setTable_51 : decode cX5_setTable 51 = .ok (.aload_n 0, 1) := by decide +kernel
theorem dX5_setTable_52 : decode cX5_setTable 52 = .ok (.getfield 10, 3) := by decide +kernel
theorem dX5_setTable_55 : decode cX5_setTable 55 = .ok (.iload_n 1, 1) := by decide +kernel
theorem dX5_setTable_56 : decode cX5_setTable 56 = .ok (.iload_n 2, 1) := by decide +kernel
theorem dX5_setTable_57 : decode cX5_setTable 57 = .ok (.invokevirtual 68, 3) := by decide +kernel
theorem dX5_setTable_60 : decode cX5_setTable 60 = .ok (.iload_n 3, 1) := by decide +kernel
theorem dX5_setTable_61 : decode cX5_setTable 61 = .ok (.ireturn, 1) := by decide +kernel
set_option maxRecDepth 20000 in
theorem ggX5_connect_X0_hasCell : GoodIn wsX5_connect wsX0_hasCell := goodIn_r _ [8, 9, 10, 11, 12, 134, 135, 136, 137, 138, 139, 140] (by decide +kernel) (by decide +kernel)
set_option maxRecDepth 20000 in
theorem gX5_connect_X0_hasCell : GoodIn wsX5_connect (wsV RX5 61 RX0 yX0_hasCell wsX0_hasCell) := goodIn_app (goodIn_of _ (by decide +kernel)) ggX5_connect_X0_hasCell
set_option maxRecDepth 20000 in
theorem ggX5_connect_X5_isInput : GoodIn wsX5_connect wsX5_isInput := goodIn_r _ [15] (by decide +kernel) (by decide +kernel)
set_option maxRecDepth 20000 in
theorem gX5_connect_X5_isInput : GoodIn wsX5_connect (va_wsS RX5 87 yX5_isInput wsX5_isInput) := goodIn_app (goodIn_of _ (by decide +kernel)) ggX5_connect_X5_isInput
set_option maxRecDepth 20000 in
theorem ggX5_connect_X0_isSource : GoodIn wsX5_connect wsX0_isSource := goodIn_r _ [19, 20, 5, 6, 7, 8, 9, 10, 11, 12, 134, 135, 136, 137, 138, 139, 140] (by decide +kernel) (by decide +kernel)
set_option maxRecDepth 20000 in
theorem gX5_connect_X0_isSource : GoodIn wsX5_connect (wsV RX5 90 RX0 yX0_isSource wsX0_isSource) := goodIn_app (goodIn_of _ (by decide +kernel)) ggX5_connect_X0_isSource
set_option maxRecDepth 20000 in
theorem ggX5_connect_X0_sourceOf : GoodIn wsX5_connect wsX0_sourceOf := goodIn_r _ [24, 25, 26, 11, 27, 134, 135, 136, 137, 138, 139, 140] (by decide +kernel) (by decide +kernel)
set_option maxRecDepth 20000 in
theorem gX5_connect_X0_sourceOf : GoodIn wsX5_connect (wsV RX5 93 RX0 yX0_sourceOf wsX0_sourceOf) := goodIn_app (goodIn_of _ (by decide +kernel)) ggX5_connect_X0_sourceOf
set_option maxRecDepth 20000 in
theorem ggX5_connect_X0_copyFrom : GoodIn wsX5_connect wsX0_copyFrom := goodIn_r _ [31, 9, 32, 33, 34, 35, 25, 36, 37, 38, 39, 40, 134, 135, 136, 137, 138, 139, 140] (by decide +kernel) (by decide +kernel)
set_option maxRecDepth 20000 in
theorem gX5_connect_X0_copyFrom : GoodIn wsX5_connect (wsV RX5 96 RX0 yX0_copyFrom wsX0_copyFrom) := goodIn_app (goodIn_of _ (by decide +kernel)) ggX5_connect_X0_copyFrom
set_option maxRecDepth 20000 in
theorem ggX5_connect_X0_removeWire : GoodIn wsX5_connect wsX0_removeWire := goodIn_r _ [44, 38, 36, 45, 46, 47, 7, 48, 26, 11, 27, 49, 50, 51, 52, 37, 53, 22, 23, 24, 25, 54, 55, 56, 57, 58, 59, 10, 12, 60, 61, 62, 134, 135, 136, 137, 138, 139, 140] (by decide +kernel) (by decide +kernel)
set_option maxRecDepth 20000 in
theorem gX5_connect_X0_removeWire : GoodIn wsX5_connect (wsV RX5 99 RX0 yX0_removeWire wsX0_removeWire) := goodIn_app (goodIn_of _ (by decide +kernel)) ggX5_connect_X0_removeWire
set_option maxRecDepth 20000 in
theorem ggX5_connect_X0_changeSource : GoodIn wsX5_connect wsX0_changeSource := goodIn_r _ [66, 25, 26, 11, 27, 134, 135, 136, 137, 138, 139, 140] (by decide +kernel) (by decide +kernel)
set_option maxRecDepth 20000 in
theorem gX5_connect_X0_changeSource : GoodIn wsX5_connect (wsV RX5 102 RX0 yX0_changeSource wsX0_changeSource) := goodIn_app (goodIn_of _ (by decide +kernel)) ggX5_connect_X0_changeSource
set_option maxRecDepth 20000 in
theorem ggX5_connect_X2_layWire : GoodIn wsX5_connect wsX2_layWire := goodIn_r _ [71, 72, 73, 74, 22, 23, 7, 24, 25, 26, 11, 27, 54, 55, 10, 12, 75, 76, 77, 70, 78, 79, 80, 81, 82, 83, 84, 85, 86, 61, 62, 87, 88, 89, 90, 38, 39, 91, 40, 92, 93, 94, 95, 36, 37, 96, 97, 98, 99, 100, 101, 102, 103, 56, 57, 58, 59, 60, 141, 134, 135, 136, 137, 138, 139, 140] (by decide +kernel) (by decide +kernel)
set_option maxRecDepth 20000 in
theorem gX5_connect_X2_layWire : GoodIn wsX5_connect (wsV RX5 105 RX2 yX2_layWire wsX2_layWire) := goodIn_app (goodIn_of _ (by decide +kernel)) ggX5_connect_X2_layWire
set_option maxRecDepth 20000 in
theorem ggX5_connect_X5_acceptTrial : GoodIn wsX5_connect wsX5_acceptTrial := goodIn_r _ [107, 108, 1, 2, 109, 110, 111, 112, 113, 114, 115, 116, 117, 118, 119, 120, 121, 122, 123, 124, 29, 30, 7, 31, 9, 32, 33, 34, 35, 25, 36, 37, 38, 39, 40, 28, 126, 127, 128, 129, 130, 131, 132, 133, 142, 143, 134, 135, 136, 137, 138, 139, 140] (by decide +kernel) (by decide +kernel)
set_option maxRecDepth 20000 in
theorem gX5_connect_X5_acceptTrial : GoodIn wsX5_connect (wsV RX5 109 RX5 yX5_acceptTrial wsX5_acceptTrial) := goodIn_app (goodIn_of _ (by decide +kernel)) ggX5_connect_X5_acceptTrial
set_option maxRecDepth 20000 in
theorem ggX5_connect_X0_lengthOf : GoodIn wsX5_connect wsX0_lengthOf := goodIn_r _ [48, 36, 26, 11, 27, 134, 135, 136, 137, 138, 139, 140] (by decide +kernel) (by decide +kernel)
set_option maxRecDepth 20000 in
theorem gX5_connect_X0_lengthOf : GoodIn wsX5_connect (wsV RX5 112 RX0 yX0_lengthOf wsX0_lengthOf) := goodIn_app (goodIn_of _ (by decide +kernel)) ggX5_connect_X0_lengthOf
theorem dX5_connect_0 : decode cX5_connect 0 = .ok (.aload_n 0, 1) := by decide +kernel
theorem dX5_connect_1 : decode cX5_connect 1 = .ok (.getfield 10, 3) := by decide +kernel
theorem dX5_connect_4 : decode cX5_connect 4 = .ok (.iload_n 1, 1) := by decide +kernel
theorem dX5_connect_5 : decode cX5_connect 5 = .ok (.invokevirtual 61, 3) := by decide +kernel
theorem dX5_connect_8 : decode cX5_connect 8 = .ok (.ifCond .eq 21, 3) := by decide +kernel
theorem dX5_connect_11 : decode cX5_connect 11 = .ok (.iload_n 2, 1) := by decide +kernel
theorem dX5_connect_12 : decode cX5_connect 12 = .ok (.invokestatic 87, 3) := by decide +kernel
theorem dX5_connect_15 : decode cX5_connect 15 = .ok (.ifCond .eq 14, 3) := by decide +kernel
theorem dX5_connect_18 : decode cX5_connect 18 = .ok (.aload_n 0, 1) := by decide +kernel
theorem dX5_connect_19 : decode cX5_connect 19 = .ok (.getfield 10, 3) := by decide +kernel
theorem dX5_connect_22 : decode cX5_connect 22 = .ok (.iload_n 3, 1) := by decide +kernel
theorem dX5_connect_23 : decode cX5_connect 23 = .ok (.invokevirtual 90, 3) := by decide +kernel
theorem dX5_connect_26 : decode cX5_connect 26 = .ok (.ifCond .ne 5, 3) := by decide +kernel
theorem dX5_connect_29 : decode cX5_connect 29 = .ok (.iconst (-1), 1) := by decide +kernel
theorem dX5_connect_30 : decode cX5_connect 30 = .ok (.ireturn, 1) := by decide +kernel
theorem dX5_connect_31 : decode cX5_connect 31 = .ok (.iload_n 1, 1) := by decide +kernel
theorem dX5_connect_32 : decode cX5_connect 32 = .ok (.iconst 3, 1) := by decide +kernel
theorem dX5_connect_33 : decode cX5_connect 33 = .ok (.imul, 1) := by decide +kernel
theorem dX5_connect_34 : decode cX5_connect 34 = .ok (.iload_n 2, 1) := by decide +kernel
theorem dX5_connect_35 : decode cX5_connect 35 = .ok (.iadd, 1) := by decide +kernel
theorem dX5_connect_36 : decode cX5_connect 36 = .ok (.istore 4, 2) := by decide +kernel
theorem dX5_connect_38 : decode cX5_connect 38 = .ok (.aload_n 0, 1) := by decide +kernel
theorem dX5_connect_39 : decode cX5_connect 39 = .ok (.getfield 10, 3) := by decide +kernel
theorem dX5_connect_42 : decode cX5_connect 42 = .ok (.iload 4, 2) := by decide +kernel
theorem dX5_connect_44 : decode cX5_connect 44 = .ok (.invokevirtual 93, 3) := by decide +kernel
theorem dX5_connect_47 : decode cX5_connect 47 = .ok (.iload_n 3, 1) := by decide +kernel
theorem dX5_connect_48 : decode cX5_connect 48 = .ok (.if_icmp .ne 6, 3) := by decide +kernel
theorem dX5_connect_51 : decode cX5_connect 51 = .ok (.bipush (-5), 2) := by decide +kernel
theorem dX5_connect_53 : decode cX5_connect 53 = .ok (.ireturn, 1) := by decide +kernel
theorem dX5_connect_54 : decode cX5_connect 54 = .ok (.aload_n 0, 1) := by decide +kernel
theorem dX5_connect_55 : decode cX5_connect 55 = .ok (.getfield 16, 3) := by decide +kernel
theorem dX5_connect_58 : decode cX5_connect 58 = .ok (.aload_n 0, 1) := by decide +kernel
theorem dX5_connect_59 : decode cX5_connect 59 = .ok (.getfield 10, 3) := by decide +kernel
theorem dX5_connect_62 : decode cX5_connect 62 = .ok (.invokevirtual 96, 3) := by decide +kernel
theorem dX5_connect_65 : decode cX5_connect 65 = .ok (.aload_n 0, 1) := by decide +kernel
theorem dX5_connect_66 : decode cX5_connect 66 = .ok (.getfield 16, 3) := by decide +kernel
theorem dX5_connect_69 : decode cX5_connect 69 = .ok (.iload 4, 2) := by decide +kernel
theorem dX5_connect_71 : decode cX5_connect 71 = .ok (.invokevirtual 99, 3) := by decide +kernel
theorem dX5_connect_74 : decode cX5_connect 74 = .ok (.aload_n 0, 1) := by decide +kernel
theorem dX5_connect_75 : decode cX5_connect 75 = .ok (.getfield 16, 3) := by decide +kernel
theorem dX5_connect_78 : decode cX5_connect 78 = .ok (.iload 4, 2) := by decide +kernel
theorem dX5_connect_80 : decode cX5_connect 80 = .ok (.iload_n 3, 1) := by decide +kernel
theorem dX5_connect_81 : decode cX5_connect 81 = .ok (.invokevirtual 102, 3) := by decide +kernel
theorem dX5_connect_84 : decode cX5_connect 84 = .ok (.aload_n 0, 1) := by decide +kernel
theorem dX5_connect_85 : decode cX5_connect 85 = .ok (.getfield 32, 3) := by decide +kernel
theorem dX5_connect_88 : decode cX5_connect 88 = .ok (.aload_n 0, 1) := by decide +kernel
theorem dX5_connect_89 : decode cX5_connect 89 = .ok (.getfield 16, 3) := by decide +kernel
theorem dX5_connect_92 : decode cX5_connect 92 = .ok (.iload 4, 2) := by decide +kernel
theorem dX5_connect_94 : decode cX5_connect 94 = .ok (.invokevirtual 105, 3) := by decide +kernel
theorem dX5_connect_97 : decode cX5_connect 97 = .ok (.ifCond .ne 6, 3) := by decide +kernel
theorem dX5_connect_100 : decode cX5_connect 100 = .ok (.bipush (-3), 2) := by decide +kernel
theorem dX5_connect_102 : decode cX5_connect 102 = .ok (.ireturn, 1) := by decide +kernel
theorem dX5_connect_103 : decode cX5_connect 103 = .ok (.aload_n 0, 1) := by decide +kernel
theorem dX5_connect_104 : decode cX5_connect 104 = .ok (.invokevirtual 109, 3) := by decide +kernel
theorem dX5_connect_107 : decode cX5_connect 107 = .ok (.aload_n 0, 1) := by decide +kernel
theorem dX5_connect_108 : decode cX5_connect 108 = .ok (.getfield 10, 3) := by decide +kernel
theorem dX5_connect_111 : decode cX5_connect 111 = .ok (.iload 4, 2) := by decide +kernel
theorem dX5_connect_113 : decode cX5_connect 113 = .ok (.invokevirtual 112, 3) := by decide +kernel
theorem dX5_connect_116 : decode cX5_connect 116 = .ok (.ireturn, 1) := by decide +kernel
set_option maxRecDepth 20000 in
theorem ggX5_swap_X5_trySwap : GoodIn wsX5_swap wsX5_trySwap := goodIn_r _ [5, 6, 7, 8, 9, 10, 4, 11, 12, 13, 14, 15, 16, 17, 18, 19, 20, 21, 22, 23, 24, 25, 26, 27, 28, 29, 30, 31, 32, 33, 34, 35, 36, 37, 38, 39, 40, 41, 42, 43, 44, 45, 46, 47, 48, 49, 50, 51, 52, 53, 54, 55, 56, 57, 58, 59, 60, 61, 62, 63, 64, 65, 66, 67, 68, 69, 70, 71, 72, 73, 74, 75, 76, 77, 78, 79, 80, 81, 82, 83, 84, 85, 86, 87, 88, 89, 90, 91, 92, 93, 94, 95, 96, 97, 98, 99, 100, 101, 102, 103, 104, 105, 106, 107, 108, 109, 110, 111, 112, 113, 114, 115, 116, 117, 118, 119, 120, 121, 143, 144, 145, 146, 147, 148, 149, 150, 151, 152, 153, 154, 155, 156, 157, 158] (by decide +kernel) (by decide +kernel)
set_option maxRecDepth 20000 in
theorem gX5_swap_X5_trySwap : GoodIn wsX5_swap (wsV RX5 115 RX5 yX5_trySwap wsX5_trySwap) := goodIn_app (goodIn_of _ (by decide +kernel)) ggX5_swap_X5_trySwap
set_option maxRecDepth 20000 in
theorem ggX5_swap_X5_acceptTrial : GoodIn wsX5_swap wsX5_acceptTrial := goodIn_r _ [125, 126, 6, 7, 127, 128, 129, 130, 131, 132, 133, 134, 135, 136, 137, 138, 139, 140, 141, 142, 19, 20, 15, 21, 17, 22, 23, 24, 25, 26, 27, 28, 29, 30, 31, 18, 143, 144, 145, 146, 147, 148, 149, 150, 159, 160, 151, 152, 153, 154, 155, 156, 157] (by decide +kernel) (by decide +kernel)
set_option maxRecDepth 20000 in
theorem gX5_swap_X5_acceptTrial : GoodIn wsX5_swap (wsV RX5 109 RX5 yX5_acceptTrial wsX5_acceptTrial) := goodIn_app (goodIn_of _ (by decide +kernel)) ggX5_swap_X5_acceptTrial
theorem dX5_swap_0 : decode cX5_swap 0 = .ok (.aload_n 0, 1) := by decide +kernel
theorem dX5_swap_1 : decode cX5_swap 1 = .ok (.iload_n 1, 1) := by decide +kernel
theorem dX5_swap_2 : decode cX5_swap 2 = .ok (.iload_n 2, 1) := by decide +kernel
theorem dX5_swap_3 : decode cX5_swap 3 = .ok (.invokevirtual 115, 3) := by decide +kernel
theorem dX5_swap_6 : decode cX5_swap 6 = .ok (.istore_n 3, 1) := by decide +kernel
theorem dX5_swap_7 : decode cX5_swap 7 = .ok (.iload_n 3, 1) := by decide +kernel
theorem dX5_swap_8 : decode cX5_swap 8 = .ok (.ifCond .lt 7, 3) := by decide +kernel
theorem dX5_swap_11 : decode cX5_swap 11 = .ok (.aload_n 0, 1) := by decide +kernel
theorem dX5_swap_12 : decode cX5_swap 12 = .ok (.invokevirtual 109, 3) := by decide +kernel
theorem dX5_swap_15 : decode cX5_swap 15 = .ok (.iload_n 3, 1) := by decide +kernel
theorem dX5_swap_16 : decode cX5_swap 16 = .ok (.ireturn, 1) := by decide +kernel
set_option maxRecDepth 20000 in
theorem ggX5_layAnew_X5_tryOrder : GoodIn wsX5_layAnew wsX5_tryOrder := goodIn_r _ [5, 6, 7, 8, 9, 10, 11, 12, 13, 14, 15, 16, 17, 18, 19, 20, 21, 22, 23, 24, 25, 26, 27, 28, 29, 30, 31, 32, 33, 34, 35, 36, 37, 38, 39, 40, 41, 42, 43, 44, 45, 46, 4, 47, 48, 49, 50, 51, 52, 53, 54, 55, 56, 57, 58, 59, 60, 61, 62, 63, 64, 65, 66, 67, 68, 69, 70, 71, 72, 73, 74, 75, 76, 77, 78, 79, 80, 81, 82, 83, 84, 85, 86, 87, 88, 89, 90, 91, 92, 93, 94, 95, 96, 97, 98, 99, 100, 101, 123, 124, 125, 126, 127, 128, 129, 130, 131, 132, 133, 134, 135, 136, 137, 138] (by decide +kernel) (by decide +kernel)
set_option maxRecDepth 20000 in
theorem gX5_layAnew_X5_tryOrder : GoodIn wsX5_layAnew (wsV RX5 119 RX5 yX5_tryOrder wsX5_tryOrder) := goodIn_app (goodIn_of _ (by decide +kernel)) ggX5_layAnew_X5_tryOrder
set_option maxRecDepth 20000 in
theorem ggX5_layAnew_X5_acceptTrial : GoodIn wsX5_layAnew wsX5_acceptTrial := goodIn_r _ [105, 106, 7, 6, 107, 108, 109, 110, 111, 112, 113, 114, 115, 116, 117, 118, 119, 120, 121, 122, 10, 11, 12, 13, 14, 15, 16, 17, 18, 19, 20, 21, 22, 23, 24, 9, 123, 124, 125, 126, 127, 128, 129, 130, 139, 140, 131, 132, 133, 134, 135, 136, 137] (by decide +kernel) (by decide +kernel)
set_option maxRecDepth 20000 in
theorem gX5_layAnew_X5_acceptTrial : GoodIn wsX5_layAnew (wsV RX5 109 RX5 yX5_acceptTrial wsX5_acceptTrial) := goodIn_app (goodIn_of _ (by decide +kernel)) ggX5_layAnew_X5_acceptTrial
theorem dX5_layAnew_0 : decode cX5_layAnew 0 = .ok (.iload_n 1, 1) := by decide +kernel
theorem dX5_layAnew_1 : decode cX5_layAnew 1 = .ok (.ifCond .lt 8, 3) := by decide +kernel
theorem dX5_layAnew_4 : decode cX5_layAnew 4 = .ok (.iload_n 1, 1) := by decide +kernel
theorem dX5_layAnew_5 : decode cX5_layAnew 5 = .ok (.iconst 3, 1) := by decide +kernel
theorem dX5_layAnew_6 : decode cX5_layAnew 6 = .ok (.if_icmp .lt 6, 3) := by decide +kernel
theorem dX5_layAnew_9 : decode cX5_layAnew 9 = .ok (.bipush (-2), 2) := by decide +kernel
theorem dX5_layAnew_11 : decode cX5_layAnew 11 = .ok (.ireturn, 1) := by decide +kernel
theorem dX5_layAnew_12 : decode cX5_layAnew 12 = .ok (.aload_n 0, 1) := by decide +kernel
theorem dX5_layAnew_13 : decode cX5_layAnew 13 = .ok (.iload_n 1, 1) := by decide +kernel
theorem dX5_layAnew_14 : decode cX5_layAnew 14 = .ok (.invokevirtual 119, 3) := by decide +kernel
theorem dX5_layAnew_17 : decode cX5_layAnew 17 = .ok (.istore_n 2, 1) := by decide +kernel
theorem dX5_layAnew_18 : decode cX5_layAnew 18 = .ok (.iload_n 2, 1) := by decide +kernel
theorem dX5_layAnew_19 : decode cX5_layAnew 19 = .ok (.ifCond .lt 7, 3) := by decide +kernel
theorem dX5_layAnew_22 : decode cX5_layAnew 22 = .ok (.aload_n 0, 1) := by decide +kernel
theorem dX5_layAnew_23 : decode cX5_layAnew 23 = .ok (.invokevirtual 109, 3) := by decide +kernel
theorem dX5_layAnew_26 : decode cX5_layAnew 26 = .ok (.iload_n 2, 1) := by decide +kernel
theorem dX5_layAnew_27 : decode cX5_layAnew 27 = .ok (.ireturn, 1) := by decide +kernel
set_option maxRecDepth 20000 in
theorem ggX5_set_X0_mostHeld : GoodIn wsX5_set wsX0_mostHeld := goodIn_r _ [7, 8, 9, 10, 11, 12, 58, 59, 60, 61, 62, 63, 64] (by decide +kernel) (by decide +kernel)
set_option maxRecDepth 20000 in
theorem gX5_set_X0_mostHeld : GoodIn wsX5_set (wsV RX5 122 RX0 yX0_mostHeld wsX0_mostHeld) := goodIn_app (goodIn_of _ (by decide +kernel)) ggX5_set_X0_mostHeld
set_option maxRecDepth 20000 in
theorem ggX5_set_X0_setting : GoodIn wsX5_set wsX0_setting := goodIn_r _ [16, 17, 18, 58, 59, 60, 61, 62, 63, 64] (by decide +kernel) (by decide +kernel)
set_option maxRecDepth 20000 in
theorem gX5_set_X0_setting : GoodIn wsX5_set (wsV RX5 125 RX0 yX0_setting wsX0_setting) := goodIn_app (goodIn_of _ (by decide +kernel)) ggX5_set_X0_setting
set_option maxRecDepth 20000 in
theorem ggX5_set_X1_remember : GoodIn wsX5_set wsX1_remember := goodIn_r _ [23, 24, 25, 26, 27, 22, 28, 29, 30, 31, 32, 33, 34, 35, 36, 6, 37, 38, 39, 40, 41, 42, 43, 44, 45, 8, 17, 18, 65, 66, 58, 59, 60, 61, 62, 63, 64] (by decide +kernel) (by decide +kernel)
set_option maxRecDepth 20000 in
theorem gX5_set_X1_remember : GoodIn wsX5_set (wsV RX5 64 RX1 yX1_remember wsX1_remember) := goodIn_app (goodIn_of _ (by decide +kernel)) ggX5_set_X1_remember
set_option maxRecDepth 20000 in
theorem ggX5_set_X0_changeSetting : GoodIn wsX5_set wsX0_changeSetting := goodIn_r _ [49, 17, 18, 58, 59, 60, 61, 62, 63, 64] (by decide +kernel) (by decide +kernel)
set_option maxRecDepth 20000 in
theorem gX5_set_X0_changeSetting : GoodIn wsX5_set (wsV RX5 128 RX0 yX0_changeSetting wsX0_changeSetting) := goodIn_app (goodIn_of _ (by decide +kernel)) ggX5_set_X0_changeSetting
theorem dX5_set_0 : decode cX5_set 0 = .ok (.iload_n 1, 1) := by decide +kernel
theorem dX5_set_1 : decode cX5_set 1 = .ok (.ifCond .eq 10, 3) := by decide +kernel
theorem dX5_set_4 : decode cX5_set 4 = .ok (.iload_n 1, 1) := by decide +kernel
theorem dX5_set_5 : decode cX5_set 5 = .ok (.iconst 1, 1) := by decide +kernel
theorem dX5_set_6 : decode cX5_set 6 = .ok (.if_icmp .eq 5, 3) := by decide +kernel
theorem dX5_set_9 : decode cX5_set 9 = .ok (.iconst (-1), 1) := by decide +kernel
theorem dX5_set_10 : decode cX5_set 10 = .ok (.ireturn, 1) := by decide +kernel
theorem dX5_set_11 : decode cX5_set 11 = .ok (.iload_n 1, 1) := by decide +kernel
theorem dX5_set_12 : decode cX5_set 12 = .ok (.ifCond .ne 21, 3) := by decide +kernel
theorem dX5_set_15 : decode cX5_set 15 = .ok (.iload_n 2, 1) := by decide +kernel
theorem dX5_set_16 : decode cX5_set 16 = .ok (.iconst 1, 1) := by decide +kernel
theorem dX5_set_17 : decode cX5_set 17 = .ok (.if_icmp .lt 12, 3) := by decide +kernel
theorem dX5_set_20 : decode cX5_set 20 = .ok (.iload_n 2, 1) := by decide +kernel
theorem dX5_set_21 : decode cX5_set 21 = .ok (.iconst 4, 1) := by decide +kernel
theorem dX5_set_22 : decode cX5_set 22 = .ok (.if_icmp .gt 7, 3) := by decide +kernel
theorem dX5_set_25 : decode cX5_set 25 = .ok (.iconst 1, 1) := by decide +kernel
theorem dX5_set_26 : decode cX5_set 26 = .ok (.goto 22, 3) := by decide +kernel
theorem dX5_set_29 : decode cX5_set 29 = .ok (.iconst 0, 1) := by decide +kernel
theorem dX5_set_30 : decode cX5_set 30 = .ok (.goto 18, 3) := by decide +kernel
theorem dX5_set_33 : decode cX5_set 33 = .ok (.iload_n 2, 1) := by decide +kernel
theorem dX5_set_34 : decode cX5_set 34 = .ok (.ifCond .lt 13, 3) := by decide +kernel
theorem dX5_set_37 : decode cX5_set 37 = .ok (.iload_n 2, 1) := by decide +kernel
theorem dX5_set_38 : decode cX5_set 38 = .ok (.bipush 9, 2) := by decide +kernel
theorem dX5_set_40 : decode cX5_set 40 = .ok (.if_icmp .gt 7, 3) := by decide +kernel
theorem dX5_set_43 : decode cX5_set 43 = .ok (.iconst 1, 1) := by decide +kernel
theorem dX5_set_44 : decode cX5_set 44 = .ok (.goto 4, 3) := by decide +kernel
theorem dX5_set_47 : decode cX5_set 47 = .ok (.iconst 0, 1) := by decide +kernel
theorem dX5_set_48 : decode cX5_set 48 = .ok (.istore_n 3, 1) := by decide +kernel
theorem dX5_set_49 : decode cX5_set 49 = .ok (.iload_n 3, 1) := by decide +kernel
theorem dX5_set_50 : decode cX5_set 50 = .ok (.ifCond .ne 6, 3) := by decide +kernel
theorem dX5_set_53 : decode cX5_set 53 = .ok (.bipush (-2), 2) := by decide +kernel
theorem dX5_set_55 : decode cX5_set 55 = .ok (.ireturn, 1) := by decide +kernel
theorem dX5_set_56 : decode cX5_set 56 = .ok (.iload_n 1, 1) := by decide +kernel
theorem dX5_set_57 : decode cX5_set 57 = .ok (.ifCond .ne 17, 3) := by decide +kernel
theorem dX5_set_60 : decode cX5_set 60 = .ok (.aload_n 0, 1) := by decide +kernel
theorem dX5_set_61 : decode cX5_set 61 = .ok (.getfield 10, 3) := by decide +kernel
theorem dX5_set_64 : decode cX5_set 64 = .ok (.invokevirtual 122, 3) := by decide +kernel
theorem dX5_set_67 : decode cX5_set 67 = .ok (.iload_n 2, 1) := by decide +kernel
theorem dX5_set_68 : decode cX5_set 68 = .ok (.if_icmp .le 6, 3) := by decide +kernel
theorem dX5_set_71 : decode cX5_set 71 = .ok (.bipush (-4), 2) := by decide +kernel
theorem dX5_set_73 : decode cX5_set 73 = .ok (.ireturn, 1) := by decide +kernel
theorem dX5_set_74 : decode cX5_set 74 = .ok (.aload_n 0, 1) := by decide +kernel
theorem dX5_set_75 : decode cX5_set 75 = .ok (.getfield 10, 3) := by decide +kernel
theorem dX5_set_78 : decode cX5_set 78 = .ok (.iload_n 1, 1) := by decide +kernel
theorem dX5_set_79 : decode cX5_set 79 = .ok (.invokevirtual 125, 3) := by decide +kernel
theorem dX5_set_82 : decode cX5_set 82 = .ok (.istore 4, 2) := by decide +kernel
theorem dX5_set_84 : decode cX5_set 84 = .ok (.iload 4, 2) := by decide +kernel
theorem dX5_set_86 : decode cX5_set 86 = .ok (.iload_n 2, 1) := by decide +kernel
theorem dX5_set_87 : decode cX5_set 87 = .ok (.if_icmp .ne 6, 3) := by decide +kernel
theorem dX5_set_90 : decode cX5_set 90 = .ok (.bipush (-5), 2) := by decide +kernel
theorem dX5_set_92 : decode cX5_set 92 = .ok (.ireturn, 1) := by decide +kernel
theorem dX5_set_93 : decode cX5_set 93 = .ok (.aload_n 0, 1) := by decide +kernel
theorem dX5_set_94 : decode cX5_set 94 = .ok (.getfield 25, 3) := by decide +kernel
theorem dX5_set_97 : decode cX5_set 97 = .ok (.aload_n 0, 1) := by decide +kernel
theorem dX5_set_98 : decode cX5_set 98 = .ok (.getfield 10, 3) := by decide +kernel
theorem dX5_set_101 : decode cX5_set 101 = .ok (.invokevirtual 64, 3) := by decide +kernel
theorem dX5_set_104 : decode cX5_set 104 = .ok (.aload_n 0, 1) := by decide +kernel
theorem dX5_set_105 : decode cX5_set 105 = .ok (.getfield 10, 3) := by decide +kernel
theorem dX5_set_108 : decode cX5_set 108 = .ok (.iload_n 1, 1) := by decide +kernel
theorem dX5_set_109 : decode cX5_set 109 = .ok (.iload_n 2, 1) := by decide +kernel
theorem dX5_set_110 : decode cX5_set 110 = .ok (.invokevirtual 128, 3) := by decide +kernel
theorem dX5_set_113 : decode cX5_set 113 = .ok (.iload 4, 2) := by decide +kernel
theorem dX5_set_115 : decode cX5_set 115 = .ok (.ireturn, 1) := by decide +kernel
set_option maxRecDepth 20000 in
theorem ggX5_load_X0_copyFrom : GoodIn wsX5_load wsX0_copyFrom := goodIn_r _ [9, 10, 11, 12, 13, 14, 15, 16, 17, 18, 19, 20, 193, 194, 195, 196, 197, 198, 199] (by decide +kernel) (by decide +kernel)
set_option maxRecDepth 20000 in
theorem gX5_load_X0_copyFrom : GoodIn wsX5_load (wsV RX5 96 RX0 yX0_copyFrom wsX0_copyFrom) := goodIn_app (goodIn_of _ (by decide +kernel)) ggX5_load_X0_copyFrom
set_option maxRecDepth 20000 in
theorem ggX5_load_X0_removeAllCells : GoodIn wsX5_load wsX0_removeAllCells := goodIn_r _ [24, 10, 15, 25, 26, 27, 8, 28, 16, 18, 29, 30, 31, 32, 193, 194, 195, 196, 197, 198, 199] (by decide +kernel) (by decide +kernel)
set_option maxRecDepth 20000 in
theorem gX5_load_X0_removeAllCells : GoodIn wsX5_load (wsV RX5 131 RX0 yX0_removeAllCells wsX0_removeAllCells) := goodIn_app (goodIn_of _ (by decide +kernel)) ggX5_load_X0_removeAllCells
set_option maxRecDepth 20000 in
theorem ggX5_load_X4_readInto : GoodIn wsX5_load wsX4_readInto := goodIn_r _ [37, 38, 39, 40, 41, 42, 36, 43, 44, 45, 46, 47, 48, 49, 50, 51, 52, 53, 54, 55, 56, 57, 58, 59, 60, 61, 62, 63, 64, 65, 66, 67, 8, 68, 10, 69, 70, 71, 72, 73, 74, 75, 76, 77, 78, 79, 15, 80, 81, 200, 201, 202, 193, 194, 195, 196, 197, 198, 199] (by decide +kernel) (by decide +kernel)
set_option maxRecDepth 20000 in
theorem gX5_load_X4_readInto : GoodIn wsX5_load (wsV RX5 134 RX4 yX4_readInto wsX4_readInto) := goodIn_app (goodIn_of _ (by decide +kernel)) ggX5_load_X4_readInto
set_option maxRecDepth 20000 in
theorem ggX5_load_X0_hasAllSources : GoodIn wsX5_load wsX0_hasAllSources := goodIn_r _ [85, 15, 86, 87, 88, 8, 89, 90, 91, 92, 93, 10, 69, 70, 71, 193, 194, 195, 196, 197, 198, 199] (by decide +kernel) (by decide +kernel)
set_option maxRecDepth 20000 in
theorem gX5_load_X0_hasAllSources : GoodIn wsX5_load (wsV RX5 138 RX0 yX0_hasAllSources wsX0_hasAllSources) := goodIn_app (goodIn_of _ (by decide +kernel)) ggX5_load_X0_hasAllSources
set_option maxRecDepth 20000 in
theorem ggX5_load_X2_layAll : GoodIn wsX5_load wsX2_layAll := goodIn_r _ [98, 99, 26, 27, 8, 28, 16, 18, 29, 30, 31, 32, 100, 101, 102, 103, 104, 105, 106, 107, 15, 80, 70, 81, 108, 109, 110, 111, 112, 113, 114, 115, 116, 117, 118, 97, 119, 120, 121, 122, 69, 71, 123, 124, 125, 126, 127, 128, 129, 130, 131, 132, 133, 134, 135, 136, 137, 19, 138, 20, 139, 140, 141, 142, 17, 143, 144, 145, 146, 147, 148, 149, 150, 151, 152, 153, 154, 155, 156, 157, 158, 159, 193, 194, 195, 196, 197, 198, 199, 203] (by decide +kernel) (by decide +kernel)
set_option maxRecDepth 20000 in
theorem gX5_load_X2_layAll : GoodIn wsX5_load (wsV RX5 142 RX2 yX2_layAll wsX2_layAll) := goodIn_app (goodIn_of _ (by decide +kernel)) ggX5_load_X2_layAll
set_option maxRecDepth 20000 in
theorem ggX5_load_X5_acceptTrial : GoodIn wsX5_load wsX5_acceptTrial := goodIn_r _ [163, 164, 2, 1, 165, 166, 167, 168, 169, 170, 171, 172, 173, 174, 175, 176, 177, 178, 179, 180, 6, 7, 8, 9, 10, 11, 12, 13, 14, 15, 16, 17, 18, 19, 20, 5, 185, 186, 187, 188, 189, 190, 191, 192, 204, 205, 193, 194, 195, 196, 197, 198, 199] (by decide +kernel) (by decide +kernel)
set_option maxRecDepth 20000 in
theorem gX5_load_X5_acceptTrial : GoodIn wsX5_load (wsV RX5 109 RX5 yX5_acceptTrial wsX5_acceptTrial) := goodIn_app (goodIn_of _ (by decide +kernel)) ggX5_load_X5_acceptTrial
set_option maxRecDepth 20000 in
theorem ggX5_load_X0_cells : GoodIn wsX5_load wsX0_cells := goodIn_r _ [184, 90, 91, 92, 8, 93, 10, 69, 70, 71, 193, 194, 195, 196, 197, 198, 199] (by decide +kernel) (by decide +kernel)
set_option maxRecDepth 20000 in
theorem gX5_load_X0_cells : GoodIn wsX5_load (wsV RX5 72 RX0 yX0_cells wsX0_cells) := goodIn_app (goodIn_of _ (by decide +kernel)) ggX5_load_X0_cells
theorem dX5_load_0 : decode cX5_load 0 = .ok (.aload_n 0, 1) := by decide +kernel
theorem dX5_load_1 : decode cX5_load 1 = .ok (.getfield 16, 3) := by decide +kernel
theorem dX5_load_4 : decode cX5_load 4 = .ok (.aload_n 0, 1) := by decide +kernel
theorem dX5_load_5 : decode cX5_load 5 = .ok (.getfield 10, 3) := by decide +kernel
theorem dX5_load_8 : decode cX5_load 8 = .ok (.invokevirtual 96, 3) := by decide +kernel
theorem dX5_load_11 : decode cX5_load 11 = .ok (.aload_n 0, 1) := by decide +kernel
theorem dX5_load_12 : decode cX5_load 12 = .ok (.getfield 16, 3) := by decide +kernel
theorem dX5_load_15 : decode cX5_load 15 = .ok (.invokevirtual 131, 3) := by decide +kernel
theorem dX5_load_18 : decode cX5_load 18 = .ok (.aload_n 0, 1) := by decide +kernel
theorem dX5_load_19 : decode cX5_load 19 = .ok (.getfield 46, 3) := by decide +kernel
theorem dX5_load_22 : decode cX5_load 22 = .ok (.aload_n 0, 1) := by decide +kernel
theorem dX5_load_23 : decode cX5_load 23 = .ok (.getfield 16, 3) := by decide +kernel
theorem dX5_load_26 : decode cX5_load 26 = .ok (.invokevirtual 134, 3) := by decide +kernel
theorem dX5_load_29 : decode cX5_load 29 = .ok (.istore_n 1, 1) := by decide +kernel
theorem dX5_load_30 : decode cX5_load 30 = .ok (.iload_n 1, 1) := by decide +kernel
theorem dX5_load_31 : decode cX5_load 31 = .ok (.iconst (-1), 1) := by decide +kernel
theorem dX5_load_32 : decode cX5_load 32 = .ok (.if_icmp .eq 8, 3) := by decide +kernel
theorem dX5_load_35 : decode cX5_load 35 = .ok (.bipush (-100), 2) := by decide +kernel
theorem dX5_load_37 : decode cX5_load 37 = .ok (.iload_n 1, 1) := by decide +kernel
theorem dX5_load_38 : decode cX5_load 38 = .ok (.isub, 1) := by decide +kernel
theorem dX5_load_39 : decode cX5_load 39 = .ok (.ireturn, 1) := by decide +kernel
theorem dX5_load_40 : decode cX5_load 40 = .ok (.aload_n 0, 1) := by decide +kernel
theorem dX5_load_41 : decode cX5_load 41 = .ok (.getfield 16, 3) := by decide +kernel
theorem dX5_load_44 : decode cX5_load 44 = .ok (.invokevirtual 138, 3) := by decide +kernel
theorem dX5_load_47 : decode cX5_load 47 = .ok (.ifCond .ne 6, 3) := by decide +kernel
theorem dX5_load_50 : decode cX5_load 50 = .ok (.bipush (-4), 2) := by decide +kernel
theorem dX5_load_52 : decode cX5_load 52 = .ok (.ireturn, 1) := by decide +kernel
theorem dX5_load_53 : decode cX5_load 53 = .ok (.aload_n 0, 1) := by decide +kernel
theorem dX5_load_54 : decode cX5_load 54 = .ok (.getfield 32, 3) := by decide +kernel
theorem dX5_load_57 : decode cX5_load 57 = .ok (.aload_n 0, 1) := by decide +kernel
theorem dX5_load_58 : decode cX5_load 58 = .ok (.getfield 16, 3) := by decide +kernel
theorem dX5_load_61 : decode cX5_load 61 = .ok (.iconst 0, 1) := by decide +kernel
theorem dX5_load_62 : decode cX5_load 62 = .ok (.invokevirtual 142, 3) := by decide +kernel
theorem dX5_load_65 : decode cX5_load 65 = .ok (.ifCond .ge 6, 3) := by decide +kernel
theorem dX5_load_68 : decode cX5_load 68 = .ok (.bipush (-3), 2) := by decide +kernel
theorem dX5_load_70 : decode cX5_load 70 = .ok (.ireturn, 1) := by decide +kernel
theorem dX5_load_71 : decode cX5_load 71 = .ok (.aload_n 0, 1) := by decide +kernel
theorem dX5_load_72 : decode cX5_load 72 = .ok (.invokevirtual 109, 3) := by decide +kernel
theorem dX5_load_75 : decode cX5_load 75 = .ok (.aload_n 0, 1) := by decide +kernel
theorem dX5_load_76 : decode cX5_load 76 = .ok (.getfield 10, 3) := by decide +kernel
theorem dX5_load_79 : decode cX5_load 79 = .ok (.invokevirtual 72, 3) := by decide +kernel
theorem dX5_load_82 : decode cX5_load 82 = .ok (.ireturn, 1) := by decide +kernel
set_option maxRecDepth 20000 in
theorem ggX5_type_X4_append : GoodIn wsX5_type wsX4_append := goodIn_r _ [6, 7, 8, 21, 22, 23] (by decide +kernel) (by decide +kernel)
set_option maxRecDepth 20000 in
theorem gX5_type_X4_append : GoodIn wsX5_type (wsV RX5 146 RX4 yX4_append wsX4_append) := goodIn_app (goodIn_of _ (by decide +kernel)) ggX5_type_X4_append
set_option maxRecDepth 20000 in
theorem ggX5_type_X4_length : GoodIn wsX5_type wsX4_length := goodIn_r _ [12, 7, 21, 22, 23] (by decide +kernel) (by decide +kernel)
set_option maxRecDepth 20000 in
theorem gX5_type_X4_length : GoodIn wsX5_type (wsV RX5 150 RX4 yX4_length wsX4_length) := goodIn_app (goodIn_of _ (by decide +kernel)) ggX5_type_X4_length
theorem dX5_type_0 : decode cX5_type 0 = .ok (.aload_n 0, 1) := by decide +kernel
theorem dX5_type_1 : decode cX5_type 1 = .ok (.getfield 46, 3) := by decide +kernel
theorem dX5_type_4 : decode cX5_type 4 = .ok (.iload_n 1, 1) := by decide +kernel
theorem dX5_type_5 : decode cX5_type 5 = .ok (.invokevirtual 146, 3) := by decide +kernel
theorem dX5_type_8 : decode cX5_type 8 = .ok (.ifCond .eq 13, 3) := by decide +kernel
theorem dX5_type_11 : decode cX5_type 11 = .ok (.aload_n 0, 1) := by decide +kernel
theorem dX5_type_12 : decode cX5_type 12 = .ok (.getfield 46, 3) := by decide +kernel
theorem dX5_type_15 : decode cX5_type 15 = .ok (.invokevirtual 150, 3) := by decide +kernel
theorem dX5_type_18 : decode cX5_type 18 = .ok (.goto 5, 3) := by decide +kernel
theorem dX5_type_21 : decode cX5_type 21 = .ok (.bipush (-6), 2) := by decide +kernel
theorem dX5_type_23 : decode cX5_type 23 = .ok (.ireturn, 1) := by decide +kernel
set_option maxRecDepth 20000 in
theorem ggX5_clearText_X4_length : GoodIn wsX5_clearText wsX4_length := goodIn_r _ [6, 7, 20, 21, 22] (by decide +kernel) (by decide +kernel)
set_option maxRecDepth 20000 in
theorem gX5_clearText_X4_length : GoodIn wsX5_clearText (wsV RX5 150 RX4 yX4_length wsX4_length) := goodIn_app (goodIn_of _ (by decide +kernel)) ggX5_clearText_X4_length
set_option maxRecDepth 20000 in
theorem ggX5_clearText_X4_empty : GoodIn wsX5_clearText wsX4_empty := goodIn_r _ [11, 7, 20, 21, 22] (by decide +kernel) (by decide +kernel)
set_option maxRecDepth 20000 in
theorem gX5_clearText_X4_empty : GoodIn wsX5_clearText (wsV RX5 153 RX4 yX4_empty wsX4_empty) := goodIn_app (goodIn_of _ (by decide +kernel)) ggX5_clearText_X4_empty
theorem dX5_clearText_0 : decode cX5_clearText 0 = .ok (.aload_n 0, 1) := by decide +kernel
theorem dX5_clearText_1 : decode cX5_clearText 1 = .ok (.getfield 46, 3) := by decide +kernel
theorem dX5_clearText_4 : decode cX5_clearText 4 = .ok (.invokevirtual 150, 3) := by decide +kernel
theorem dX5_clearText_7 : decode cX5_clearText 7 = .ok (.istore_n 1, 1) := by decide +kernel
theorem dX5_clearText_8 : decode cX5_clearText 8 = .ok (.aload_n 0, 1) := by decide +kernel
theorem dX5_clearText_9 : decode cX5_clearText 9 = .ok (.getfield 46, 3) := by decide +kernel
theorem dX5_clearText_12 : decode cX5_clearText 12 = .ok (.invokevirtual 153, 3) := by decide +kernel
theorem dX5_clearText_15 : decode cX5_clearText 15 = .ok (.iload_n 1, 1) := by decide +kernel
theorem dX5_clearText_16 : decode cX5_clearText 16 = .ok (.ireturn, 1) := by decide +kernel
set_option maxRecDepth 20000 in
theorem ggX5_undo_X1_bringBack : GoodIn wsX5_undo wsX1_bringBack := goodIn_r _ [7, 8, 9, 10, 11, 6, 12, 13, 14, 15, 16, 17, 18, 19, 20, 21, 22, 23, 24, 25, 26, 27, 28, 29, 42, 43, 44, 45, 46, 47, 48, 49, 50] (by decide +kernel) (by decide +kernel)
set_option maxRecDepth 20000 in
theorem gX5_undo_X1_bringBack : GoodIn wsX5_undo (wsV RX5 156 RX1 yX1_bringBack wsX1_bringBack) := goodIn_app (goodIn_of _ (by decide +kernel)) ggX5_undo_X1_bringBack
set_option maxRecDepth 20000 in
theorem ggX5_undo_X1_size : GoodIn wsX5_undo wsX1_size := goodIn_r _ [33, 8, 42, 43] (by decide +kernel) (by decide +kernel)
set_option maxRecDepth 20000 in
theorem gX5_undo_X1_size : GoodIn wsX5_undo (wsV RX5 160 RX1 yX1_size wsX1_size) := goodIn_app (goodIn_of _ (by decide +kernel)) ggX5_undo_X1_size
theorem dX5_undo_0 : decode cX5_undo 0 = .ok (.aload_n 0, 1) := by decide +kernel
theorem dX5_undo_1 : decode cX5_undo 1 = .ok (.getfield 25, 3) := by decide +kernel
theorem dX5_undo_4 : decode cX5_undo 4 = .ok (.aload_n 0, 1) := by decide +kernel
theorem dX5_undo_5 : decode cX5_undo 5 = .ok (.getfield 10, 3) := by decide +kernel
theorem dX5_undo_8 : decode cX5_undo 8 = .ok (.invokevirtual 156, 3) := by decide +kernel
theorem dX5_undo_11 : decode cX5_undo 11 = .ok (.ifCond .eq 13, 3) := by decide +kernel
theorem dX5_undo_14 : decode cX5_undo 14 = .ok (.aload_n 0, 1) := by decide +kernel
theorem dX5_undo_15 : decode cX5_undo 15 = .ok (.getfield 25, 3) := by decide +kernel
theorem dX5_undo_18 : decode cX5_undo 18 = .ok (.invokevirtual 160, 3) := by decide +kernel
theorem dX5_undo_21 : decode cX5_undo 21 = .ok (.goto 5, 3) := by decide +kernel
theorem dX5_undo_24 : decode cX5_undo 24 = .ok (.bipush (-5), 2) := by decide +kernel
theorem dX5_undo_26 : decode cX5_undo 26 = .ok (.ireturn, 1) := by decide +kernel
set_option maxRecDepth 20000 in
theorem ggX5_keep_X0_copyFrom : GoodIn wsX5_keep wsX0_copyFrom := goodIn_r _ [8, 9, 10, 11, 12, 13, 14, 15, 16, 17, 18, 19, 39, 40, 41, 42, 43, 44, 45] (by decide +kernel) (by decide +kernel)
set_option maxRecDepth 20000 in
theorem gX5_keep_X0_copyFrom : GoodIn wsX5_keep (wsV RX5 96 RX0 yX0_copyFrom wsX0_copyFrom) := goodIn_app (goodIn_of _ (by decide +kernel)) ggX5_keep_X0_copyFrom
set_option maxRecDepth 20000 in
theorem ggX5_keep_X0_cells : GoodIn wsX5_keep wsX0_cells := goodIn_r _ [23, 24, 25, 26, 7, 27, 9, 28, 29, 30, 39, 40, 41, 42, 43, 44, 45] (by decide +kernel) (by decide +kernel)
set_option maxRecDepth 20000 in
theorem gX5_keep_X0_cells : GoodIn wsX5_keep (wsV RX5 72 RX0 yX0_cells wsX0_cells) := goodIn_app (goodIn_of _ (by decide +kernel)) ggX5_keep_X0_cells
theorem dX5_keep_0 : decode cX5_keep 0 = .ok (.aload_n 0, 1) := by decide +kernel
theorem dX5_keep_1 : decode cX5_keep 1 = .ok (.getfield 19, 3) := by decide +kernel
theorem dX5_keep_4 : decode cX5_keep 4 = .ok (.aload_n 0, 1) := by decide +kernel
theorem dX5_keep_5 : decode cX5_keep 5 = .ok (.getfield 10, 3) := by decide +kernel
theorem dX5_keep_8 : decode cX5_keep 8 = .ok (.invokevirtual 96, 3) := by decide +kernel
theorem dX5_keep_11 : decode cX5_keep 11 = .ok (.aload_n 0, 1) := by decide +kernel
theorem dX5_keep_12 : decode cX5_keep 12 = .ok (.iconst 1, 1) := by decide +kernel
theorem dX5_keep_13 : decode cX5_keep 13 = .ok (.putfield 50, 3) := by decide +kernel
theorem dX5_keep_16 : decode cX5_keep 16 = .ok (.aload_n 0, 1) := by decide +kernel
theorem dX5_keep_17 : decode cX5_keep 17 = .ok (.getfield 10, 3) := by decide +kernel
theorem dX5_keep_20 : decode cX5_keep 20 = .ok (.invokevirtual 72, 3) := by decide +kernel
theorem dX5_keep_23 : decode cX5_keep 23 = .ok (.ireturn, 1) := by decide +kernel
set_option maxRecDepth 20000 in
theorem ggX5_restore_X1_remember : GoodIn wsX5_restore wsX1_remember := goodIn_r _ [9, 10, 11, 12, 13, 8, 14, 15, 16, 17, 18, 19, 20, 21, 22, 23, 24, 25, 26, 27, 28, 29, 30, 31, 32, 33, 34, 35, 56, 57, 58, 59, 60, 61, 62, 63, 64] (by decide +kernel) (by decide +kernel)
set_option maxRecDepth 20000 in
theorem gX5_restore_X1_remember : GoodIn wsX5_restore (wsV RX5 64 RX1 yX1_remember wsX1_remember) := goodIn_app (goodIn_of _ (by decide +kernel)) ggX5_restore_X1_remember
set_option maxRecDepth 20000 in
theorem ggX5_restore_X0_copyFrom : GoodIn wsX5_restore wsX0_copyFrom := goodIn_r _ [24, 25, 26, 27, 28, 29, 30, 31, 32, 33, 34, 35, 58, 59, 60, 61, 62, 63, 64] (by decide +kernel) (by decide +kernel)
set_option maxRecDepth 20000 in
theorem gX5_restore_X0_copyFrom : GoodIn wsX5_restore (wsV RX5 96 RX0 yX0_copyFrom wsX0_copyFrom) := goodIn_app (goodIn_of _ (by decide +kernel)) ggX5_restore_X0_copyFrom
set_option maxRecDepth 20000 in
theorem ggX5_restore_X0_cells : GoodIn wsX5_restore wsX0_cells := goodIn_r _ [40, 41, 42, 43, 23, 44, 25, 45, 46, 47, 58, 59, 60, 61, 62, 63, 64] (by decide +kernel) (by decide +kernel)
set_option maxRecDepth 20000 in
theorem gX5_restore_X0_cells : GoodIn wsX5_restore (wsV RX5 72 RX0 yX0_cells wsX0_cells) := goodIn_app (goodIn_of _ (by decide +kernel)) ggX5_restore_X0_cells
theorem dX5_restore_0 : decode cX5_restore 0 = .ok (.aload_n 0, 1) := by decide +kernel
theorem dX5_restore_1 : decode cX5_restore 1 = .ok (.getfield 50, 3) := by decide +kernel
theorem dX5_restore_4 : decode cX5_restore 4 = .ok (.ifCond .ne 6, 3) := by decide +kernel
theorem dX5_restore_7 : decode cX5_restore 7 = .ok (.bipush (-5), 2) := by decide +kernel
theorem dX5_restore_9 : decode cX5_restore 9 = .ok (.ireturn, 1) := by decide +kernel
theorem dX5_restore_10 : decode cX5_restore 10 = .ok (.aload_n 0, 1) := by decide +kernel
theorem dX5_restore_11 : decode cX5_restore 11 = .ok (.getfield 25, 3) := by decide +kernel
theorem dX5_restore_14 : decode cX5_restore 14 = .ok (.aload_n 0, 1) := by decide +kernel
theorem dX5_restore_15 : decode cX5_restore 15 = .ok (.getfield 10, 3) := by decide +kernel
theorem dX5_restore_18 : decode cX5_restore 18 = .ok (.invokevirtual 64, 3) := by decide +kernel
theorem dX5_restore_21 : decode cX5_restore 21 = .ok (.aload_n 0, 1) := by decide +kernel
theorem dX5_restore_22 : decode cX5_restore 22 = .ok (.getfield 10, 3) := by decide +kernel
theorem dX5_restore_25 : decode cX5_restore 25 = .ok (.aload_n 0, 1) := by decide +kernel
theorem dX5_restore_26 : decode cX5_restore 26 = .ok (.getfield 19, 3) := by decide +kernel
theorem dX5_restore_29 : decode cX5_restore 29 = .ok (.invokevirtual 96, 3) := by decide +kernel
theorem dX5_restore_32 : decode cX5_restore 32 = .ok (.aload_n 0, 1) := by decide +kernel
theorem dX5_restore_33 : decode cX5_restore 33 = .ok (.getfield 10, 3) := by decide +kernel
theorem dX5_restore_36 : decode cX5_restore 36 = .ok (.invokevirtual 72, 3) := by decide +kernel
theorem dX5_restore_39 : decode cX5_restore 39 = .ok (.ireturn, 1) := by decide +kernel
set_option maxRecDepth 20000 in
theorem ggX5_cell_X0_hasCell : GoodIn wsX5_cell wsX0_hasCell := goodIn_r _ [7, 8, 9, 10, 11, 79, 80, 81, 82, 83, 84, 85] (by decide +kernel) (by decide +kernel)
set_option maxRecDepth 20000 in
theorem gX5_cell_X0_hasCell : GoodIn wsX5_cell (wsV RX5 61 RX0 yX0_hasCell wsX0_hasCell) := goodIn_app (goodIn_of _ (by decide +kernel)) ggX5_cell_X0_hasCell
set_option maxRecDepth 20000 in
theorem ggX5_cell_X0_tableOf : GoodIn wsX5_cell wsX0_tableOf := goodIn_r _ [15, 8, 9, 10, 11, 79, 80, 81, 82, 83, 84, 85] (by decide +kernel) (by decide +kernel)
set_option maxRecDepth 20000 in
theorem gX5_cell_X0_tableOf : GoodIn wsX5_cell (wsV RX5 84 RX0 yX0_tableOf wsX0_tableOf) := goodIn_app (goodIn_of _ (by decide +kernel)) ggX5_cell_X0_tableOf
set_option maxRecDepth 20000 in
theorem ggX5_cell_X0_sourceOf : GoodIn wsX5_cell wsX0_sourceOf := goodIn_r _ [19, 20, 21, 10, 22, 79, 80, 81, 82, 83, 84, 85] (by decide +kernel) (by decide +kernel)
set_option maxRecDepth 20000 in
theorem gX5_cell_X0_sourceOf : GoodIn wsX5_cell (wsV RX5 93 RX0 yX0_sourceOf wsX0_sourceOf) := goodIn_app (goodIn_of _ (by decide +kernel)) ggX5_cell_X0_sourceOf
set_option maxRecDepth 20000 in
theorem ggX5_cell_X3_study : GoodIn wsX5_cell wsX3_study := goodIn_r _ [27, 28, 29, 30, 31, 32, 33, 34, 35, 36, 26, 37, 38, 39, 4, 5, 6, 7, 8, 9, 10, 11, 40, 41, 42, 43, 44, 45, 46, 47, 48, 17, 18, 19, 20, 21, 22, 86, 87, 88, 89, 79, 80, 81, 82, 83, 84, 85] (by decide +kernel) (by decide +kernel)
set_option maxRecDepth 20000 in
theorem gX5_cell_X3_study : GoodIn wsX5_cell (wsV RX5 163 RX3 yX3_study wsX3_study) := goodIn_app (goodIn_of _ (by decide +kernel)) ggX5_cell_X3_study
set_option maxRecDepth 20000 in
theorem ggX5_cell_X3_answers : GoodIn wsX5_cell wsX3_answers := goodIn_r _ [52, 53, 54, 55, 26, 56, 28, 9, 10, 11, 86, 87, 88, 89] (by decide +kernel) (by decide +kernel)
set_option maxRecDepth 20000 in
theorem gX5_cell_X3_answers : GoodIn wsX5_cell (wsV RX5 166 RX3 yX3_answers wsX3_answers) := goodIn_app (goodIn_of _ (by decide +kernel)) ggX5_cell_X3_answers
set_option maxRecDepth 20000 in
theorem ggX5_cell_X3_depthOf : GoodIn wsX5_cell wsX3_depthOf := goodIn_r _ [56, 28, 9, 10, 11, 86, 87, 88, 89] (by decide +kernel) (by decide +kernel)
set_option maxRecDepth 20000 in
theorem gX5_cell_X3_depthOf : GoodIn wsX5_cell (wsV RX5 169 RX3 yX3_depthOf wsX3_depthOf) := goodIn_app (goodIn_of _ (by decide +kernel)) ggX5_cell_X3_depthOf
set_option maxRecDepth 20000 in
theorem ggX5_cell_X0_uses : GoodIn wsX5_cell wsX0_uses := goodIn_r _ [61, 20, 79, 80, 81, 82, 83, 84, 85] (by decide +kernel) (by decide +kernel)
set_option maxRecDepth 20000 in
theorem gX5_cell_X0_uses : GoodIn wsX5_cell (wsV RX5 172 RX0 yX0_uses wsX0_uses) := goodIn_app (goodIn_of _ (by decide +kernel)) ggX5_cell_X0_uses
set_option maxRecDepth 20000 in
theorem ggX5_cell_X0_segmentsOfCell : GoodIn wsX5_cell wsX0_segmentsOfCell := goodIn_r _ [65, 66, 67, 68, 6, 69, 70, 21, 10, 22, 79, 80, 81, 82, 83, 84, 85] (by decide +kernel) (by decide +kernel)
set_option maxRecDepth 20000 in
theorem gX5_cell_X0_segmentsOfCell : GoodIn wsX5_cell (wsV RX5 175 RX0 yX0_segmentsOfCell wsX0_segmentsOfCell) := goodIn_app (goodIn_of _ (by decide +kernel)) ggX5_cell_X0_segmentsOfCell
theorem dX5_cell_0 : decode cX5_cell 0 = .ok (.aload_n 0, 1) := by decide +kernel
theorem dX5_cell_1 : decode cX5_cell 1 = .ok (.getfield 10, 3) := by decide +kernel
theorem dX5_cell_4 : decode cX5_cell 4 = .ok (.iload_n 1, 1) := by decide +kernel
theorem dX5_cell_5 : decode cX5_cell 5 = .ok (.invokevirtual 61, 3) := by decide +kernel
theorem dX5_cell_8 : decode cX5_cell 8 = .ok (.ifCond .ne 5, 3) := by decide +kernel
theorem dX5_cell_11 : decode cX5_cell 11 = .ok (.iconst (-1), 1) := by decide +kernel
theorem dX5_cell_12 : decode cX5_cell 12 = .ok (.ireturn, 1) := by decide +kernel
theorem dX5_cell_13 : decode cX5_cell 13 = .ok (.iload_n 2, 1) := by decide +kernel
theorem dX5_cell_14 : decode cX5_cell 14 = .ok (.tableswitch 120 0 6 #[42, 51, 51, 51, 66, 102, 111], 42) := by decide +kernel
theorem dX5_cell_56 : decode cX5_cell 56 = .ok (.aload_n 0, 1) := by decide +kernel
theorem dX5_cell_57 : decode cX5_cell 57 = .ok (.getfield 10, 3) := by decide +kernel
theorem dX5_cell_60 : decode cX5_cell 60 = .ok (.iload_n 1, 1) := by decide +kernel
theorem dX5_cell_61 : decode cX5_cell 61 = .ok (.invokevirtual 84, 3) := by decide +kernel
theorem dX5_cell_64 : decode cX5_cell 64 = .ok (.ireturn, 1) := by decide +kernel
theorem dX5_cell_65 : decode cX5_cell 65 = .ok (.aload_n 0, 1) := by decide +kernel
theorem dX5_cell_66 : decode cX5_cell 66 = .ok (.getfield 10, 3) := by decide +kernel
theorem dX5_cell_69 : decode cX5_cell 69 = .ok (.iload_n 1, 1) := by decide +kernel
theorem dX5_cell_70 : decode cX5_cell 70 = .ok (.iconst 3, 1) := by decide +kernel
theorem dX5_cell_71 : decode cX5_cell 71 = .ok (.imul, 1) := by decide +kernel
theorem dX5_cell_72 : decode cX5_cell 72 = .ok (.iload_n 2, 1) := by decide +kernel
theorem dX5_cell_73 : decode cX5_cell 73 = .ok (.iadd, 1) := by decide +kernel
theorem dX5_cell_74 : decode cX5_cell 74 = .ok (.iconst 1, 1) := by decide +kernel
theorem dX5_cell_75 : decode cX5_cell 75 = .ok (.isub, 1) := by decide +kernel
theorem dX5_cell_76 : decode cX5_cell 76 = .ok (.invokevirtual 93, 3) := by decide +kernel
theorem dX5_cell_79 : decode cX5_cell 79 = .ok (.ireturn, 1) := by decide +kernel
theorem dX5_cell_80 : decode cX5_cell 80 = .ok (.aload_n 0, 1) := by decide +kernel
theorem dX5_cell_81 : decode cX5_cell 81 = .ok (.getfield 39, 3) := by decide +kernel
theorem dX5_cell_84 : decode cX5_cell 84 = .ok (.aload_n 0, 1) := by decide +kernel
theorem dX5_cell_85 : decode cX5_cell 85 = .ok (.getfield 10, 3) := by decide +kernel
theorem dX5_cell_88 : decode cX5_cell 88 = .ok (.invokevirtual 163, 3) := by decide +kernel
theorem dX5_cell_91 : decode cX5_cell 91 = .ok (.aload_n 0, 1) := by decide +kernel
theorem dX5_cell_92 : decode cX5_cell 92 = .ok (.getfield 39, 3) := by decide +kernel
theorem dX5_cell_95 : decode cX5_cell 95 = .ok (.iload_n 1, 1) := by decide +kernel
theorem dX5_cell_96 : decode cX5_cell 96 = .ok (.invokevirtual 166, 3) := by decide +kernel
theorem dX5_cell_99 : decode cX5_cell 99 = .ok (.ifCond .eq 14, 3) := by decide +kernel
theorem dX5_cell_102 : decode cX5_cell 102 = .ok (.aload_n 0, 1) := by decide +kernel
theorem dX5_cell_103 : decode cX5_cell 103 = .ok (.getfield 39, 3) := by decide +kernel
theorem dX5_cell_106 : decode cX5_cell 106 = .ok (.iload_n 1, 1) := by decide +kernel
theorem dX5_cell_107 : decode cX5_cell 107 = .ok (.invokevirtual 169, 3) := by decide +kernel
theorem dX5_cell_110 : decode cX5_cell 110 = .ok (.goto 5, 3) := by decide +kernel
theorem dX5_cell_113 : decode cX5_cell 113 = .ok (.bipush (-5), 2) := by decide +kernel
theorem dX5_cell_115 : decode cX5_cell 115 = .ok (.ireturn, 1) := by decide +kernel
theorem dX5_cell_116 : decode cX5_cell 116 = .ok (.aload_n 0, 1) := by decide +kernel
theorem dX5_cell_117 : decode cX5_cell 117 = .ok (.getfield 10, 3) := by decide +kernel
theorem dX5_cell_120 : decode cX5_cell 120 = .ok (.iload_n 1, 1) := by decide +kernel
theorem dX5_cell_121 : decode cX5_cell 121 = .ok (.invokevirtual 172, 3) := by decide +kernel
theorem dX5_cell_124 : decode cX5_cell 124 = .ok (.ireturn, 1) := by decide +kernel
theorem dX5_cell_125 : decode cX5_cell 125 = .ok (.aload_n 0, 1) := by decide +kernel
theorem dX5_cell_126 : decode cX5_cell 126 = .ok (.getfield 10, 3) := by decide +kernel
end
section
theorem dX5_cell_129 : decode cX5_cell 129 = .ok (.iload_n 1, 1) := by decide +kernel
theorem dX5_cell_130 : decode cX5_cell 130 = .ok (.invokevirtual 175, 3) := by decide +kernel
theorem dX5_cell_133 : decode cX5_cell 133 = .ok (.ireturn, 1) := by decide +kernel
theorem dX5_cell_134 : decode cX5_cell 134 = .ok (.bipush (-2), 2) := by decide +kernel
theorem dX5_cell_136 : decode cX5_cell 136 = .ok (.ireturn, 1) := by decide +kernel
set_option maxRecDepth 20000 in
theorem ggX5_path_X0_hasCell : GoodIn wsX5_path wsX0_hasCell := goodIn_r _ [6, 7, 8, 9, 10, 41, 42, 43, 44, 45, 46, 47] (by decide +kernel) (by decide +kernel)
set_option maxRecDepth 20000 in
theorem gX5_path_X0_hasCell : GoodIn wsX5_path (wsV RX5 61 RX0 yX0_hasCell wsX0_hasCell) := goodIn_app (goodIn_of _ (by decide +kernel)) ggX5_path_X0_hasCell
set_option maxRecDepth 20000 in
theorem ggX5_path_X5_isInput : GoodIn wsX5_path wsX5_isInput := goodIn_r _ [13] (by decide +kernel) (by decide +kernel)
set_option maxRecDepth 20000 in
theorem gX5_path_X5_isInput : GoodIn wsX5_path (va_wsS RX5 87 yX5_isInput wsX5_isInput) := goodIn_app (goodIn_of _ (by decide +kernel)) ggX5_path_X5_isInput
set_option maxRecDepth 20000 in
theorem ggX5_path_X0_junctionAt : GoodIn wsX5_path wsX0_junctionAt := goodIn_r _ [17, 18, 19, 20, 21, 5, 22, 23, 24, 9, 25, 26, 27, 28, 29, 30, 31, 32, 41, 42, 43, 44, 45, 46, 47] (by decide +kernel) (by decide +kernel)
set_option maxRecDepth 20000 in
theorem gX5_path_X0_junctionAt : GoodIn wsX5_path (wsV RX5 178 RX0 yX0_junctionAt wsX0_junctionAt) := goodIn_app (goodIn_of _ (by decide +kernel)) ggX5_path_X0_junctionAt
theorem dX5_path_0 : decode cX5_path 0 = .ok (.aload_n 0, 1) := by decide +kernel
theorem dX5_path_1 : decode cX5_path 1 = .ok (.getfield 10, 3) := by decide +kernel
theorem dX5_path_4 : decode cX5_path 4 = .ok (.iload_n 1, 1) := by decide +kernel
theorem dX5_path_5 : decode cX5_path 5 = .ok (.invokevirtual 61, 3) := by decide +kernel
theorem dX5_path_8 : decode cX5_path 8 = .ok (.ifCond .eq 10, 3) := by decide +kernel
theorem dX5_path_11 : decode cX5_path 11 = .ok (.iload_n 2, 1) := by decide +kernel
theorem dX5_path_12 : decode cX5_path 12 = .ok (.invokestatic 87, 3) := by decide +kernel
theorem dX5_path_15 : decode cX5_path 15 = .ok (.ifCond .ne 5, 3) := by decide +kernel
theorem dX5_path_18 : decode cX5_path 18 = .ok (.iconst (-1), 1) := by decide +kernel
theorem dX5_path_19 : decode cX5_path 19 = .ok (.ireturn, 1) := by decide +kernel
theorem dX5_path_20 : decode cX5_path 20 = .ok (.iload_n 3, 1) := by decide +kernel
theorem dX5_path_21 : decode cX5_path 21 = .ok (.ifCond .ge 6, 3) := by decide +kernel
theorem dX5_path_24 : decode cX5_path 24 = .ok (.bipush (-2), 2) := by decide +kernel
theorem dX5_path_26 : decode cX5_path 26 = .ok (.ireturn, 1) := by decide +kernel
theorem dX5_path_27 : decode cX5_path 27 = .ok (.aload_n 0, 1) := by decide +kernel
theorem dX5_path_28 : decode cX5_path 28 = .ok (.getfield 10, 3) := by decide +kernel
theorem dX5_path_31 : decode cX5_path 31 = .ok (.iload_n 1, 1) := by decide +kernel
theorem dX5_path_32 : decode cX5_path 32 = .ok (.iconst 3, 1) := by decide +kernel
theorem dX5_path_33 : decode cX5_path 33 = .ok (.imul, 1) := by decide +kernel
theorem dX5_path_34 : decode cX5_path 34 = .ok (.iload_n 2, 1) := by decide +kernel
theorem dX5_path_35 : decode cX5_path 35 = .ok (.iadd, 1) := by decide +kernel
theorem dX5_path_36 : decode cX5_path 36 = .ok (.iload_n 3, 1) := by decide +kernel
theorem dX5_path_37 : decode cX5_path 37 = .ok (.invokevirtual 178, 3) := by decide +kernel
theorem dX5_path_40 : decode cX5_path 40 = .ok (.istore 4, 2) := by decide +kernel
theorem dX5_path_42 : decode cX5_path 42 = .ok (.iload 4, 2) := by decide +kernel
theorem dX5_path_44 : decode cX5_path 44 = .ok (.iconst (-1), 1) := by decide +kernel
theorem dX5_path_45 : decode cX5_path 45 = .ok (.if_icmp .ne 8, 3) := by decide +kernel
theorem dX5_path_48 : decode cX5_path 48 = .ok (.bipush (-5), 2) := by decide +kernel
theorem dX5_path_50 : decode cX5_path 50 = .ok (.goto 5, 3) := by decide +kernel
theorem dX5_path_53 : decode cX5_path 53 = .ok (.iload 4, 2) := by decide +kernel
theorem dX5_path_55 : decode cX5_path 55 = .ok (.ireturn, 1) := by decide +kernel
set_option maxRecDepth 20000 in
theorem ggX5_held_X5_segmentBetween : GoodIn wsX5_held wsX5_segmentBetween := goodIn_r _ [5, 6, 7, 8, 4, 9, 10, 11, 12] (by decide +kernel) (by decide +kernel)
set_option maxRecDepth 20000 in
theorem gX5_held_X5_segmentBetween : GoodIn wsX5_held (va_wsS RX5 181 yX5_segmentBetween wsX5_segmentBetween) := goodIn_app (goodIn_of _ (by decide +kernel)) ggX5_held_X5_segmentBetween
set_option maxRecDepth 20000 in
theorem ggX5_held_X0_heldBy : GoodIn wsX5_held wsX0_heldBy := goodIn_r _ [17, 18, 27, 28, 29, 30, 31, 32, 33] (by decide +kernel) (by decide +kernel)
set_option maxRecDepth 20000 in
theorem gX5_held_X0_heldBy : GoodIn wsX5_held (wsV RX5 184 RX0 yX0_heldBy wsX0_heldBy) := goodIn_app (goodIn_of _ (by decide +kernel)) ggX5_held_X0_heldBy
theorem dX5_held_0 : decode cX5_held 0 = .ok (.iload_n 1, 1) := by decide +kernel
theorem dX5_held_1 : decode cX5_held 1 = .ok (.iload_n 2, 1) := by decide +kernel
theorem dX5_held_2 : decode cX5_held 2 = .ok (.invokestatic 181, 3) := by decide +kernel
theorem dX5_held_5 : decode cX5_held 5 = .ok (.istore_n 3, 1) := by decide +kernel
theorem dX5_held_6 : decode cX5_held 6 = .ok (.iload_n 3, 1) := by decide +kernel
theorem dX5_held_7 : decode cX5_held 7 = .ok (.iconst (-1), 1) := by decide +kernel
theorem dX5_held_8 : decode cX5_held 8 = .ok (.if_icmp .ne 7, 3) := by decide +kernel
theorem dX5_held_11 : decode cX5_held 11 = .ok (.iconst (-1), 1) := by decide +kernel
theorem dX5_held_12 : decode cX5_held 12 = .ok (.goto 11, 3) := by decide +kernel
theorem dX5_held_15 : decode cX5_held 15 = .ok (.aload_n 0, 1) := by decide +kernel
theorem dX5_held_16 : decode cX5_held 16 = .ok (.getfield 10, 3) := by decide +kernel
theorem dX5_held_19 : decode cX5_held 19 = .ok (.iload_n 3, 1) := by decide +kernel
theorem dX5_held_20 : decode cX5_held 20 = .ok (.invokevirtual 184, 3) := by decide +kernel
theorem dX5_held_23 : decode cX5_held 23 = .ok (.ireturn, 1) := by decide +kernel
set_option maxRecDepth 20000 in
theorem ggX5_answer_X0_hasCell : GoodIn wsX5_answer wsX0_hasCell := goodIn_r _ [7, 8, 9, 10, 11, 77, 78, 79, 80, 81, 82, 83] (by decide +kernel) (by decide +kernel)
set_option maxRecDepth 20000 in
theorem gX5_answer_X0_hasCell : GoodIn wsX5_answer (wsV RX5 61 RX0 yX0_hasCell wsX0_hasCell) := goodIn_app (goodIn_of _ (by decide +kernel)) ggX5_answer_X0_hasCell
set_option maxRecDepth 20000 in
theorem ggX5_answer_X3_study : GoodIn wsX5_answer wsX3_study := goodIn_r _ [16, 17, 18, 19, 20, 21, 22, 23, 24, 25, 15, 26, 27, 28, 4, 5, 6, 7, 8, 9, 10, 11, 29, 30, 31, 32, 33, 34, 35, 36, 37, 38, 39, 40, 41, 42, 43, 84, 85, 86, 87, 77, 78, 79, 80, 81, 82, 83] (by decide +kernel) (by decide +kernel)
set_option maxRecDepth 20000 in
theorem gX5_answer_X3_study : GoodIn wsX5_answer (wsV RX5 163 RX3 yX3_study wsX3_study) := goodIn_app (goodIn_of _ (by decide +kernel)) ggX5_answer_X3_study
set_option maxRecDepth 20000 in
theorem ggX5_answer_X3_answers : GoodIn wsX5_answer wsX3_answers := goodIn_r _ [47, 48, 49, 50, 15, 51, 17, 9, 10, 11, 84, 85, 86, 87] (by decide +kernel) (by decide +kernel)
set_option maxRecDepth 20000 in
theorem gX5_answer_X3_answers : GoodIn wsX5_answer (wsV RX5 166 RX3 yX3_answers wsX3_answers) := goodIn_app (goodIn_of _ (by decide +kernel)) ggX5_answer_X3_answers
set_option maxRecDepth 20000 in
theorem ggX5_answer_X3_work : GoodIn wsX5_answer wsX3_work := goodIn_r _ [55, 18, 27, 56, 37, 38, 39, 6, 40, 41, 42, 10, 43, 57, 58, 59, 15, 60, 9, 11, 61, 62, 63, 64, 8, 84, 85, 86, 87, 77, 78, 79, 80, 81, 82, 83] (by decide +kernel) (by decide +kernel)
set_option maxRecDepth 20000 in
theorem gX5_answer_X3_work : GoodIn wsX5_answer (wsV RX5 187 RX3 yX3_work wsX3_work) := goodIn_app (goodIn_of _ (by decide +kernel)) ggX5_answer_X3_work
set_option maxRecDepth 20000 in
theorem ggX5_answer_X3_bitOf : GoodIn wsX5_answer wsX3_bitOf := goodIn_r _ [68, 56, 9, 10, 11, 84, 85, 86, 87] (by decide +kernel) (by decide +kernel)
set_option maxRecDepth 20000 in
theorem gX5_answer_X3_bitOf : GoodIn wsX5_answer (wsV RX5 191 RX3 yX3_bitOf wsX3_bitOf) := goodIn_app (goodIn_of _ (by decide +kernel)) ggX5_answer_X3_bitOf
theorem dX5_answer_0 : decode cX5_answer 0 = .ok (.aload_n 0, 1) := by decide +kernel
theorem dX5_answer_1 : decode cX5_answer 1 = .ok (.getfield 10, 3) := by decide +kernel
theorem dX5_answer_4 : decode cX5_answer 4 = .ok (.iload_n 1, 1) := by decide +kernel
theorem dX5_answer_5 : decode cX5_answer 5 = .ok (.invokevirtual 61, 3) := by decide +kernel
theorem dX5_answer_8 : decode cX5_answer 8 = .ok (.ifCond .ne 5, 3) := by decide +kernel
theorem dX5_answer_11 : decode cX5_answer 11 = .ok (.iconst (-1), 1) := by decide +kernel
theorem dX5_answer_12 : decode cX5_answer 12 = .ok (.ireturn, 1) := by decide +kernel
theorem dX5_answer_13 : decode cX5_answer 13 = .ok (.iload_n 2, 1) := by decide +kernel
theorem dX5_answer_14 : decode cX5_answer 14 = .ok (.ifCond .lt 10, 3) := by decide +kernel
theorem dX5_answer_17 : decode cX5_answer 17 = .ok (.iload_n 2, 1) := by decide +kernel
theorem dX5_answer_18 : decode cX5_answer 18 = .ok (.sipush 256, 3) := by decide +kernel
theorem dX5_answer_21 : decode cX5_answer 21 = .ok (.if_icmp .lt 6, 3) := by decide +kernel
theorem dX5_answer_24 : decode cX5_answer 24 = .ok (.bipush (-2), 2) := by decide +kernel
theorem dX5_answer_26 : decode cX5_answer 26 = .ok (.ireturn, 1) := by decide +kernel
theorem dX5_answer_27 : decode cX5_answer 27 = .ok (.aload_n 0, 1) := by decide +kernel
theorem dX5_answer_28 : decode cX5_answer 28 = .ok (.getfield 39, 3) := by decide +kernel
theorem dX5_answer_31 : decode cX5_answer 31 = .ok (.aload_n 0, 1) := by decide +kernel
theorem dX5_answer_32 : decode cX5_answer 32 = .ok (.getfield 10, 3) := by decide +kernel
theorem dX5_answer_35 : decode cX5_answer 35 = .ok (.invokevirtual 163, 3) := by decide +kernel
theorem dX5_answer_38 : decode cX5_answer 38 = .ok (.aload_n 0, 1) := by decide +kernel
theorem dX5_answer_39 : decode cX5_answer 39 = .ok (.getfield 39, 3) := by decide +kernel
theorem dX5_answer_42 : decode cX5_answer 42 = .ok (.iload_n 1, 1) := by decide +kernel
theorem dX5_answer_43 : decode cX5_answer 43 = .ok (.invokevirtual 166, 3) := by decide +kernel
theorem dX5_answer_46 : decode cX5_answer 46 = .ok (.ifCond .ne 6, 3) := by decide +kernel
theorem dX5_answer_49 : decode cX5_answer 49 = .ok (.bipush (-5), 2) := by decide +kernel
theorem dX5_answer_51 : decode cX5_answer 51 = .ok (.ireturn, 1) := by decide +kernel
theorem dX5_answer_52 : decode cX5_answer 52 = .ok (.aload_n 0, 1) := by decide +kernel
theorem dX5_answer_53 : decode cX5_answer 53 = .ok (.getfield 39, 3) := by decide +kernel
theorem dX5_answer_56 : decode cX5_answer 56 = .ok (.aload_n 0, 1) := by decide +kernel
theorem dX5_answer_57 : decode cX5_answer 57 = .ok (.getfield 10, 3) := by decide +kernel
theorem dX5_answer_60 : decode cX5_answer 60 = .ok (.iload_n 2, 1) := by decide +kernel
theorem dX5_answer_61 : decode cX5_answer 61 = .ok (.invokevirtual 187, 3) := by decide +kernel
theorem dX5_answer_64 : decode cX5_answer 64 = .ok (.aload_n 0, 1) := by decide +kernel
theorem dX5_answer_65 : decode cX5_answer 65 = .ok (.getfield 39, 3) := by decide +kernel
theorem dX5_answer_68 : decode cX5_answer 68 = .ok (.iload_n 1, 1) := by decide +kernel
theorem dX5_answer_69 : decode cX5_answer 69 = .ok (.invokevirtual 191, 3) := by decide +kernel
theorem dX5_answer_72 : decode cX5_answer 72 = .ok (.ireturn, 1) := by decide +kernel
set_option maxRecDepth 20000 in
theorem ggX5_ones_X0_hasCell : GoodIn wsX5_ones wsX0_hasCell := goodIn_r _ [7, 8, 9, 10, 11, 77, 78, 79, 80, 81, 82, 83] (by decide +kernel) (by decide +kernel)
set_option maxRecDepth 20000 in
theorem gX5_ones_X0_hasCell : GoodIn wsX5_ones (wsV RX5 61 RX0 yX0_hasCell wsX0_hasCell) := goodIn_app (goodIn_of _ (by decide +kernel)) ggX5_ones_X0_hasCell
set_option maxRecDepth 20000 in
theorem ggX5_ones_X3_study : GoodIn wsX5_ones wsX3_study := goodIn_r _ [16, 17, 18, 19, 20, 21, 22, 23, 24, 25, 15, 26, 27, 28, 4, 5, 6, 7, 8, 9, 10, 11, 29, 30, 31, 32, 33, 34, 35, 36, 37, 38, 39, 40, 41, 42, 43, 84, 85, 86, 87, 77, 78, 79, 80, 81, 82, 83] (by decide +kernel) (by decide +kernel)
set_option maxRecDepth 20000 in
theorem gX5_ones_X3_study : GoodIn wsX5_ones (wsV RX5 163 RX3 yX3_study wsX3_study) := goodIn_app (goodIn_of _ (by decide +kernel)) ggX5_ones_X3_study
set_option maxRecDepth 20000 in
theorem ggX5_ones_X3_answers : GoodIn wsX5_ones wsX3_answers := goodIn_r _ [47, 48, 49, 50, 15, 51, 17, 9, 10, 11, 84, 85, 86, 87] (by decide +kernel) (by decide +kernel)
set_option maxRecDepth 20000 in
theorem gX5_ones_X3_answers : GoodIn wsX5_ones (wsV RX5 166 RX3 yX3_answers wsX3_answers) := goodIn_app (goodIn_of _ (by decide +kernel)) ggX5_ones_X3_answers
set_option maxRecDepth 20000 in
theorem ggX5_ones_X3_work : GoodIn wsX5_ones wsX3_work := goodIn_r _ [55, 18, 27, 56, 37, 38, 39, 6, 40, 41, 42, 10, 43, 57, 58, 59, 15, 60, 9, 11, 61, 62, 63, 64, 8, 84, 85, 86, 87, 77, 78, 79, 80, 81, 82, 83] (by decide +kernel) (by decide +kernel)
set_option maxRecDepth 20000 in
theorem gX5_ones_X3_work : GoodIn wsX5_ones (wsV RX5 187 RX3 yX3_work wsX3_work) := goodIn_app (goodIn_of _ (by decide +kernel)) ggX5_ones_X3_work
set_option maxRecDepth 20000 in
theorem ggX5_ones_X3_bitOf : GoodIn wsX5_ones wsX3_bitOf := goodIn_r _ [68, 56, 9, 10, 11, 84, 85, 86, 87] (by decide +kernel) (by decide +kernel)
set_option maxRecDepth 20000 in
theorem gX5_ones_X3_bitOf : GoodIn wsX5_ones (wsV RX5 191 RX3 yX3_bitOf wsX3_bitOf) := goodIn_app (goodIn_of _ (by decide +kernel)) ggX5_ones_X3_bitOf
theorem dX5_ones_0 : decode cX5_ones 0 = .ok (.aload_n 0, 1) := by decide +kernel
theorem dX5_ones_1 : decode cX5_ones 1 = .ok (.getfield 10, 3) := by decide +kernel
theorem dX5_ones_4 : decode cX5_ones 4 = .ok (.iload_n 1, 1) := by decide +kernel
theorem dX5_ones_5 : decode cX5_ones 5 = .ok (.invokevirtual 61, 3) := by decide +kernel
theorem dX5_ones_8 : decode cX5_ones 8 = .ok (.ifCond .ne 5, 3) := by decide +kernel
theorem dX5_ones_11 : decode cX5_ones 11 = .ok (.iconst (-1), 1) := by decide +kernel
theorem dX5_ones_12 : decode cX5_ones 12 = .ok (.ireturn, 1) := by decide +kernel
theorem dX5_ones_13 : decode cX5_ones 13 = .ok (.aload_n 0, 1) := by decide +kernel
theorem dX5_ones_14 : decode cX5_ones 14 = .ok (.getfield 39, 3) := by decide +kernel
theorem dX5_ones_17 : decode cX5_ones 17 = .ok (.aload_n 0, 1) := by decide +kernel
theorem dX5_ones_18 : decode cX5_ones 18 = .ok (.getfield 10, 3) := by decide +kernel
theorem dX5_ones_21 : decode cX5_ones 21 = .ok (.invokevirtual 163, 3) := by decide +kernel
theorem dX5_ones_24 : decode cX5_ones 24 = .ok (.aload_n 0, 1) := by decide +kernel
theorem dX5_ones_25 : decode cX5_ones 25 = .ok (.getfield 39, 3) := by decide +kernel
theorem dX5_ones_28 : decode cX5_ones 28 = .ok (.iload_n 1, 1) := by decide +kernel
theorem dX5_ones_29 : decode cX5_ones 29 = .ok (.invokevirtual 166, 3) := by decide +kernel
theorem dX5_ones_32 : decode cX5_ones 32 = .ok (.ifCond .ne 6, 3) := by decide +kernel
theorem dX5_ones_35 : decode cX5_ones 35 = .ok (.bipush (-5), 2) := by decide +kernel
theorem dX5_ones_37 : decode cX5_ones 37 = .ok (.ireturn, 1) := by decide +kernel
theorem dX5_ones_38 : decode cX5_ones 38 = .ok (.iconst 0, 1) := by decide +kernel
theorem dX5_ones_39 : decode cX5_ones 39 = .ok (.istore_n 2, 1) := by decide +kernel
theorem dX5_ones_40 : decode cX5_ones 40 = .ok (.iconst 0, 1) := by decide +kernel
theorem dX5_ones_41 : decode cX5_ones 41 = .ok (.istore_n 3, 1) := by decide +kernel
theorem dX5_ones_42 : decode cX5_ones 42 = .ok (.iload_n 3, 1) := by decide +kernel
theorem dX5_ones_43 : decode cX5_ones 43 = .ok (.sipush 256, 3) := by decide +kernel
theorem dX5_ones_46 : decode cX5_ones 46 = .ok (.if_icmp .ge 32, 3) := by decide +kernel
theorem dX5_ones_49 : decode cX5_ones 49 = .ok (.aload_n 0, 1) := by decide +kernel
theorem dX5_ones_50 : decode cX5_ones 50 = .ok (.getfield 39, 3) := by decide +kernel
theorem dX5_ones_53 : decode cX5_ones 53 = .ok (.aload_n 0, 1) := by decide +kernel
theorem dX5_ones_54 : decode cX5_ones 54 = .ok (.getfield 10, 3) := by decide +kernel
theorem dX5_ones_57 : decode cX5_ones 57 = .ok (.iload_n 3, 1) := by decide +kernel
theorem dX5_ones_58 : decode cX5_ones 58 = .ok (.invokevirtual 187, 3) := by decide +kernel
theorem dX5_ones_61 : decode cX5_ones 61 = .ok (.iload_n 2, 1) := by decide +kernel
theorem dX5_ones_62 : decode cX5_ones 62 = .ok (.aload_n 0, 1) := by decide +kernel
theorem dX5_ones_63 : decode cX5_ones 63 = .ok (.getfield 39, 3) := by decide +kernel
theorem dX5_ones_66 : decode cX5_ones 66 = .ok (.iload_n 1, 1) := by decide +kernel
theorem dX5_ones_67 : decode cX5_ones 67 = .ok (.invokevirtual 191, 3) := by decide +kernel
theorem dX5_ones_70 : decode cX5_ones 70 = .ok (.iadd, 1) := by decide +kernel
theorem dX5_ones_71 : decode cX5_ones 71 = .ok (.istore_n 2, 1) := by decide +kernel
theorem dX5_ones_72 : decode cX5_ones 72 = .ok (.iinc 3 1, 3) := by decide +kernel
theorem dX5_ones_75 : decode cX5_ones 75 = .ok (.goto (-33), 3) := by decide +kernel
theorem dX5_ones_78 : decode cX5_ones 78 = .ok (.iload_n 2, 1) := by decide +kernel
theorem dX5_ones_79 : decode cX5_ones 79 = .ok (.ireturn, 1) := by decide +kernel
set_option maxRecDepth 20000 in
theorem ggX5_ifSwap_X5_trySwap : GoodIn wsX5_ifSwap wsX5_trySwap := goodIn_r _ [5, 6, 7, 8, 9, 10, 4, 11, 12, 13, 14, 15, 16, 17, 18, 19, 20, 21, 22, 23, 24, 25, 26, 27, 28, 29, 30, 31, 32, 33, 34, 35, 36, 37, 38, 39, 40, 41, 42, 43, 44, 45, 46, 47, 48, 49, 50, 51, 52, 53, 54, 55, 56, 57, 58, 59, 60, 61, 62, 63, 64, 65, 66, 67, 68, 69, 70, 71, 72, 73, 74, 75, 76, 77, 78, 79, 80, 81, 82, 83, 84, 85, 86, 87, 88, 89, 90, 91, 92, 93, 94, 95, 96, 97, 98, 99, 100, 101, 102, 103, 104, 105, 106, 107, 108, 109, 110, 111, 112, 113, 114, 115, 116, 117, 118, 119, 120, 121, 122, 123, 124, 125, 126, 127, 128, 129, 130, 131, 132, 133, 134, 135, 136, 137] (by decide +kernel) (by decide +kernel)
set_option maxRecDepth 20000 in
theorem gX5_ifSwap_X5_trySwap : GoodIn wsX5_ifSwap (wsV RX5 115 RX5 yX5_trySwap wsX5_trySwap) := goodIn_app (goodIn_of _ (by decide +kernel)) ggX5_ifSwap_X5_trySwap
theorem dX5_ifSwap_0 : decode cX5_ifSwap 0 = .ok (.aload_n 0, 1) := by decide +kernel
theorem dX5_ifSwap_1 : decode cX5_ifSwap 1 = .ok (.iload_n 1, 1) := by decide +kernel
theorem dX5_ifSwap_2 : decode cX5_ifSwap 2 = .ok (.iload_n 2, 1) := by decide +kernel
theorem dX5_ifSwap_3 : decode cX5_ifSwap 3 = .ok (.invokevirtual 115, 3) := by decide +kernel
theorem dX5_ifSwap_6 : decode cX5_ifSwap 6 = .ok (.ireturn, 1) := by decide +kernel
set_option maxRecDepth 20000 in
theorem ggX5_bestSwap_X0_hasCell : GoodIn wsX5_bestSwap wsX0_hasCell := goodIn_r _ [6, 7, 8, 9, 10, 131, 132, 133, 134, 135, 136, 137] (by decide +kernel) (by decide +kernel)
set_option maxRecDepth 20000 in
theorem gX5_bestSwap_X0_hasCell : GoodIn wsX5_bestSwap (wsV RX5 61 RX0 yX0_hasCell wsX0_hasCell) := goodIn_app (goodIn_of _ (by decide +kernel)) ggX5_bestSwap_X0_hasCell
set_option maxRecDepth 20000 in
theorem ggX5_bestSwap_X0_segmentsOfAll : GoodIn wsX5_bestSwap wsX0_segmentsOfAll := goodIn_r _ [14, 15, 131, 132, 133, 134, 135, 136, 137] (by decide +kernel) (by decide +kernel)
set_option maxRecDepth 20000 in
theorem gX5_bestSwap_X0_segmentsOfAll : GoodIn wsX5_bestSwap (wsV RX5 194 RX0 yX0_segmentsOfAll wsX0_segmentsOfAll) := goodIn_app (goodIn_of _ (by decide +kernel)) ggX5_bestSwap_X0_segmentsOfAll
set_option maxRecDepth 20000 in
theorem ggX5_bestSwap_X5_trySwap : GoodIn wsX5_bestSwap wsX5_trySwap := goodIn_r _ [19, 1, 20, 21, 22, 8, 9, 10, 2, 3, 4, 5, 6, 7, 23, 24, 25, 26, 27, 28, 29, 30, 31, 15, 32, 33, 34, 35, 36, 37, 38, 39, 40, 41, 42, 43, 44, 45, 46, 47, 48, 49, 50, 51, 52, 53, 54, 55, 56, 57, 58, 59, 60, 61, 62, 63, 64, 65, 66, 67, 68, 69, 70, 71, 72, 73, 74, 75, 76, 77, 78, 79, 80, 81, 82, 83, 84, 85, 86, 87, 88, 89, 90, 91, 92, 93, 94, 95, 96, 97, 98, 99, 100, 101, 102, 103, 104, 105, 106, 107, 108, 109, 110, 111, 112, 113, 114, 115, 116, 117, 118, 119, 120, 121, 122, 12, 13, 14, 123, 124, 125, 126, 127, 128, 129, 130, 131, 132, 133, 134, 135, 136, 137, 138] (by decide +kernel) (by decide +kernel)
set_option maxRecDepth 20000 in
theorem gX5_bestSwap_X5_trySwap : GoodIn wsX5_bestSwap (wsV RX5 115 RX5 yX5_trySwap wsX5_trySwap) := goodIn_app (goodIn_of _ (by decide +kernel)) ggX5_bestSwap_X5_trySwap
theorem dX5_bestSwap_0 : decode cX5_bestSwap 0 = .ok (.aload_n 0, 1) := by decide +kernel
theorem dX5_bestSwap_1 : decode cX5_bestSwap 1 = .ok (.getfield 10, 3) := by decide +kernel
theorem dX5_bestSwap_4 : decode cX5_bestSwap 4 = .ok (.iload_n 1, 1) := by decide +kernel
theorem dX5_bestSwap_5 : decode cX5_bestSwap 5 = .ok (.invokevirtual 61, 3) := by decide +kernel
theorem dX5_bestSwap_8 : decode cX5_bestSwap 8 = .ok (.ifCond .ne 5, 3) := by decide +kernel
theorem dX5_bestSwap_11 : decode cX5_bestSwap 11 = .ok (.iconst (-1), 1) := by decide +kernel
theorem dX5_bestSwap_12 : decode cX5_bestSwap 12 = .ok (.ireturn, 1) := by decide +kernel
theorem dX5_bestSwap_13 : decode cX5_bestSwap 13 = .ok (.aload_n 0, 1) := by decide +kernel
theorem dX5_bestSwap_14 : decode cX5_bestSwap 14 = .ok (.getfield 10, 3) := by decide +kernel
theorem dX5_bestSwap_17 : decode cX5_bestSwap 17 = .ok (.invokevirtual 194, 3) := by decide +kernel
theorem dX5_bestSwap_20 : decode cX5_bestSwap 20 = .ok (.istore_n 2, 1) := by decide +kernel
theorem dX5_bestSwap_21 : decode cX5_bestSwap 21 = .ok (.bipush (-5), 2) := by decide +kernel
theorem dX5_bestSwap_23 : decode cX5_bestSwap 23 = .ok (.istore_n 3, 1) := by decide +kernel
theorem dX5_bestSwap_24 : decode cX5_bestSwap 24 = .ok (.iconst 0, 1) := by decide +kernel
theorem dX5_bestSwap_25 : decode cX5_bestSwap 25 = .ok (.istore 4, 2) := by decide +kernel
theorem dX5_bestSwap_27 : decode cX5_bestSwap 27 = .ok (.iload 4, 2) := by decide +kernel
theorem dX5_bestSwap_29 : decode cX5_bestSwap 29 = .ok (.bipush 24, 2) := by decide +kernel
theorem dX5_bestSwap_31 : decode cX5_bestSwap 31 = .ok (.if_icmp .ge 35, 3) := by decide +kernel
theorem dX5_bestSwap_34 : decode cX5_bestSwap 34 = .ok (.aload_n 0, 1) := by decide +kernel
theorem dX5_bestSwap_35 : decode cX5_bestSwap 35 = .ok (.iload_n 1, 1) := by decide +kernel
theorem dX5_bestSwap_36 : decode cX5_bestSwap 36 = .ok (.iload 4, 2) := by decide +kernel
theorem dX5_bestSwap_38 : decode cX5_bestSwap 38 = .ok (.invokevirtual 115, 3) := by decide +kernel
theorem dX5_bestSwap_41 : decode cX5_bestSwap 41 = .ok (.istore 5, 2) := by decide +kernel
theorem dX5_bestSwap_43 : decode cX5_bestSwap 43 = .ok (.iload 5, 2) := by decide +kernel
theorem dX5_bestSwap_45 : decode cX5_bestSwap 45 = .ok (.ifCond .lt 15, 3) := by decide +kernel
theorem dX5_bestSwap_48 : decode cX5_bestSwap 48 = .ok (.iload 5, 2) := by decide +kernel
theorem dX5_bestSwap_50 : decode cX5_bestSwap 50 = .ok (.iload_n 2, 1) := by decide +kernel
theorem dX5_bestSwap_51 : decode cX5_bestSwap 51 = .ok (.if_icmp .ge 9, 3) := by decide +kernel
theorem dX5_bestSwap_54 : decode cX5_bestSwap 54 = .ok (.iload 5, 2) := by decide +kernel
theorem dX5_bestSwap_56 : decode cX5_bestSwap 56 = .ok (.istore_n 2, 1) := by decide +kernel
theorem dX5_bestSwap_57 : decode cX5_bestSwap 57 = .ok (.iload 4, 2) := by decide +kernel
theorem dX5_bestSwap_59 : decode cX5_bestSwap 59 = .ok (.istore_n 3, 1) := by decide +kernel
theorem dX5_bestSwap_60 : decode cX5_bestSwap 60 = .ok (.iinc 4 1, 3) := by decide +kernel
theorem dX5_bestSwap_63 : decode cX5_bestSwap 63 = .ok (.goto (-36), 3) := by decide +kernel
theorem dX5_bestSwap_66 : decode cX5_bestSwap 66 = .ok (.iload_n 3, 1) := by decide +kernel
theorem dX5_bestSwap_67 : decode cX5_bestSwap 67 = .ok (.ireturn, 1) := by decide +kernel
set_option maxRecDepth 20000 in
theorem ggX5_bestOrder_X5_tryOrder : GoodIn wsX5_bestOrder wsX5_tryOrder := goodIn_r _ [6, 7, 8, 9, 10, 11, 12, 13, 14, 15, 16, 17, 18, 19, 20, 21, 22, 23, 24, 25, 26, 27, 28, 29, 30, 31, 32, 33, 34, 35, 36, 37, 38, 39, 40, 41, 42, 43, 44, 45, 46, 47, 5, 48, 49, 50, 51, 52, 53, 54, 55, 56, 57, 58, 59, 60, 61, 62, 63, 64, 65, 66, 67, 68, 69, 70, 71, 72, 73, 74, 75, 76, 77, 78, 79, 80, 81, 82, 83, 84, 85, 86, 87, 88, 89, 90, 91, 92, 93, 94, 95, 96, 97, 98, 99, 100, 101, 102, 103, 104, 105, 106, 107, 108, 109, 110, 111, 112, 113, 114, 115, 116, 117, 118] (by decide +kernel) (by decide +kernel)
set_option maxRecDepth 20000 in
theorem gX5_bestOrder_X5_tryOrder : GoodIn wsX5_bestOrder (wsV RX5 119 RX5 yX5_tryOrder wsX5_tryOrder) := goodIn_app (goodIn_of _ (by decide +kernel)) ggX5_bestOrder_X5_tryOrder
theorem dX5_bestOrder_0 : decode cX5_bestOrder 0 = .ok (.ldc 197, 2) := by decide +kernel
theorem dX5_bestOrder_2 : decode cX5_bestOrder 2 = .ok (.istore_n 1, 1) := by decide +kernel
theorem dX5_bestOrder_3 : decode cX5_bestOrder 3 = .ok (.bipush (-5), 2) := by decide +kernel
theorem dX5_bestOrder_5 : decode cX5_bestOrder 5 = .ok (.istore_n 2, 1) := by decide +kernel
theorem dX5_bestOrder_6 : decode cX5_bestOrder 6 = .ok (.iconst 0, 1) := by decide +kernel
theorem dX5_bestOrder_7 : decode cX5_bestOrder 7 = .ok (.istore_n 3, 1) := by decide +kernel
theorem dX5_bestOrder_8 : decode cX5_bestOrder 8 = .ok (.iload_n 3, 1) := by decide +kernel
theorem dX5_bestOrder_9 : decode cX5_bestOrder 9 = .ok (.iconst 3, 1) := by decide +kernel
theorem dX5_bestOrder_10 : decode cX5_bestOrder 10 = .ok (.if_icmp .ge 32, 3) := by decide +kernel
theorem dX5_bestOrder_13 : decode cX5_bestOrder 13 = .ok (.aload_n 0, 1) := by decide +kernel
theorem dX5_bestOrder_14 : decode cX5_bestOrder 14 = .ok (.iload_n 3, 1) := by decide +kernel
theorem dX5_bestOrder_15 : decode cX5_bestOrder 15 = .ok (.invokevirtual 119, 3) := by decide +kernel
theorem dX5_bestOrder_18 : decode cX5_bestOrder 18 = .ok (.istore 4, 2) := by decide +kernel
theorem dX5_bestOrder_20 : decode cX5_bestOrder 20 = .ok (.iload 4, 2) := by decide +kernel
theorem dX5_bestOrder_22 : decode cX5_bestOrder 22 = .ok (.ifCond .lt 14, 3) := by decide +kernel
theorem dX5_bestOrder_25 : decode cX5_bestOrder 25 = .ok (.iload 4, 2) := by decide +kernel
theorem dX5_bestOrder_27 : decode cX5_bestOrder 27 = .ok (.iload_n 1, 1) := by decide +kernel
theorem dX5_bestOrder_28 : decode cX5_bestOrder 28 = .ok (.if_icmp .ge 8, 3) := by decide +kernel
theorem dX5_bestOrder_31 : decode cX5_bestOrder 31 = .ok (.iload 4, 2) := by decide +kernel
theorem dX5_bestOrder_33 : decode cX5_bestOrder 33 = .ok (.istore_n 1, 1) := by decide +kernel
theorem dX5_bestOrder_34 : decode cX5_bestOrder 34 = .ok (.iload_n 3, 1) := by decide +kernel
theorem dX5_bestOrder_35 : decode cX5_bestOrder 35 = .ok (.istore_n 2, 1) := by decide +kernel
theorem dX5_bestOrder_36 : decode cX5_bestOrder 36 = .ok (.iinc 3 1, 3) := by decide +kernel
theorem dX5_bestOrder_39 : decode cX5_bestOrder 39 = .ok (.goto (-31), 3) := by decide +kernel
theorem dX5_bestOrder_42 : decode cX5_bestOrder 42 = .ok (.iload_n 2, 1) := by decide +kernel
theorem dX5_bestOrder_43 : decode cX5_bestOrder 43 = .ok (.ireturn, 1) := by decide +kernel
set_option maxRecDepth 20000 in
theorem ggX5_count_X0_cells : GoodIn wsX5_count wsX0_cells := goodIn_r _ [9, 10, 11, 12, 8, 13, 14, 15, 16, 17, 105, 106, 107, 108, 109, 110, 111] (by decide +kernel) (by decide +kernel)
set_option maxRecDepth 20000 in
theorem gX5_count_X0_cells : GoodIn wsX5_count (wsV RX5 72 RX0 yX0_cells wsX0_cells) := goodIn_app (goodIn_of _ (by decide +kernel)) ggX5_count_X0_cells
set_option maxRecDepth 20000 in
theorem ggX5_count_X0_wires : GoodIn wsX5_count wsX0_wires := goodIn_r _ [21, 22, 23, 16, 24, 105, 106, 107, 108, 109, 110, 111] (by decide +kernel) (by decide +kernel)
set_option maxRecDepth 20000 in
theorem gX5_count_X0_wires : GoodIn wsX5_count (wsV RX5 198 RX0 yX0_wires wsX0_wires) := goodIn_app (goodIn_of _ (by decide +kernel)) ggX5_count_X0_wires
set_option maxRecDepth 20000 in
theorem ggX5_count_X0_segmentsOfAll : GoodIn wsX5_count wsX0_segmentsOfAll := goodIn_r _ [28, 29, 105, 106, 107, 108, 109, 110, 111] (by decide +kernel) (by decide +kernel)
set_option maxRecDepth 20000 in
theorem gX5_count_X0_segmentsOfAll : GoodIn wsX5_count (wsV RX5 194 RX0 yX0_segmentsOfAll wsX0_segmentsOfAll) := goodIn_app (goodIn_of _ (by decide +kernel)) ggX5_count_X0_segmentsOfAll
set_option maxRecDepth 20000 in
theorem ggX5_count_X0_fullSegments : GoodIn wsX5_count wsX0_fullSegments := goodIn_r _ [33, 34, 35, 105, 106, 107, 108, 109, 110, 111] (by decide +kernel) (by decide +kernel)
set_option maxRecDepth 20000 in
theorem gX5_count_X0_fullSegments : GoodIn wsX5_count (wsV RX5 201 RX0 yX0_fullSegments wsX0_fullSegments) := goodIn_app (goodIn_of _ (by decide +kernel)) ggX5_count_X0_fullSegments
set_option maxRecDepth 20000 in
theorem ggX5_count_X0_mostHeld : GoodIn wsX5_count wsX0_mostHeld := goodIn_r _ [39, 34, 40, 41, 42, 43, 105, 106, 107, 108, 109, 110, 111] (by decide +kernel) (by decide +kernel)
set_option maxRecDepth 20000 in
theorem gX5_count_X0_mostHeld : GoodIn wsX5_count (wsV RX5 122 RX0 yX0_mostHeld wsX0_mostHeld) := goodIn_app (goodIn_of _ (by decide +kernel)) ggX5_count_X0_mostHeld
set_option maxRecDepth 20000 in
theorem ggX5_count_X3_study : GoodIn wsX5_count wsX3_study := goodIn_r _ [48, 49, 50, 51, 52, 53, 54, 55, 56, 57, 47, 58, 59, 60, 11, 12, 8, 13, 14, 15, 16, 17, 61, 62, 63, 64, 65, 41, 42, 43, 66, 67, 68, 69, 22, 70, 71, 112, 113, 114, 115, 105, 106, 107, 108, 109, 110, 111] (by decide +kernel) (by decide +kernel)
set_option maxRecDepth 20000 in
theorem gX5_count_X3_study : GoodIn wsX5_count (wsV RX5 163 RX3 yX3_study wsX3_study) := goodIn_app (goodIn_of _ (by decide +kernel)) ggX5_count_X3_study
set_option maxRecDepth 20000 in
theorem ggX5_count_X3_cellsThatAnswer : GoodIn wsX5_count wsX3_cellsThatAnswer := goodIn_r _ [75, 50, 112, 113, 114, 115] (by decide +kernel) (by decide +kernel)
set_option maxRecDepth 20000 in
theorem gX5_count_X3_cellsThatAnswer : GoodIn wsX5_count (wsV RX5 204 RX3 yX3_cellsThatAnswer wsX3_cellsThatAnswer) := goodIn_app (goodIn_of _ (by decide +kernel)) ggX5_count_X3_cellsThatAnswer
set_option maxRecDepth 20000 in
theorem ggX5_count_X3_greatestDepth : GoodIn wsX5_count wsX3_greatestDepth := goodIn_r _ [79, 49, 65, 41, 42, 43, 112, 113, 114, 115] (by decide +kernel) (by decide +kernel)
set_option maxRecDepth 20000 in
theorem gX5_count_X3_greatestDepth : GoodIn wsX5_count (wsV RX5 207 RX3 yX3_greatestDepth wsX3_greatestDepth) := goodIn_app (goodIn_of _ (by decide +kernel)) ggX5_count_X3_greatestDepth
set_option maxRecDepth 20000 in
theorem ggX5_count_X0_setting : GoodIn wsX5_count wsX0_setting := goodIn_r _ [83, 35, 84, 105, 106, 107, 108, 109, 110, 111] (by decide +kernel) (by decide +kernel)
set_option maxRecDepth 20000 in
theorem gX5_count_X0_setting : GoodIn wsX5_count (wsV RX5 125 RX0 yX0_setting wsX0_setting) := goodIn_app (goodIn_of _ (by decide +kernel)) ggX5_count_X0_setting
set_option maxRecDepth 20000 in
theorem ggX5_count_X1_size : GoodIn wsX5_count wsX1_size := goodIn_r _ [89, 90, 116, 117] (by decide +kernel) (by decide +kernel)
set_option maxRecDepth 20000 in
theorem gX5_count_X1_size : GoodIn wsX5_count (wsV RX5 160 RX1 yX1_size wsX1_size) := goodIn_app (goodIn_of _ (by decide +kernel)) ggX5_count_X1_size
set_option maxRecDepth 20000 in
theorem ggX5_count_X4_length : GoodIn wsX5_count wsX4_length := goodIn_r _ [95, 96, 118, 119, 120] (by decide +kernel) (by decide +kernel)
set_option maxRecDepth 20000 in
theorem gX5_count_X4_length : GoodIn wsX5_count (wsV RX5 150 RX4 yX4_length wsX4_length) := goodIn_app (goodIn_of _ (by decide +kernel)) ggX5_count_X4_length
theorem dX5_count_0 : decode cX5_count 0 = .ok (.iload_n 1, 1) := by decide +kernel
theorem dX5_count_1 : decode cX5_count 1 = .ok (.tableswitch 179 0 10 #[59, 67, 75, 83, 91, 99, 126, 145, 154, 163, 171], 59) := by decide +kernel
theorem dX5_count_60 : decode cX5_count 60 = .ok (.aload_n 0, 1) := by decide +kernel
theorem dX5_count_61 : decode cX5_count 61 = .ok (.getfield 10, 3) := by decide +kernel
theorem dX5_count_64 : decode cX5_count 64 = .ok (.invokevirtual 72, 3) := by decide +kernel
theorem dX5_count_67 : decode cX5_count 67 = .ok (.ireturn, 1) := by decide +kernel
theorem dX5_count_68 : decode cX5_count 68 = .ok (.aload_n 0, 1) := by decide +kernel
theorem dX5_count_69 : decode cX5_count 69 = .ok (.getfield 10, 3) := by decide +kernel
theorem dX5_count_72 : decode cX5_count 72 = .ok (.invokevirtual 198, 3) := by decide +kernel
theorem dX5_count_75 : decode cX5_count 75 = .ok (.ireturn, 1) := by decide +kernel
theorem dX5_count_76 : decode cX5_count 76 = .ok (.aload_n 0, 1) := by decide +kernel
theorem dX5_count_77 : decode cX5_count 77 = .ok (.getfield 10, 3) := by decide +kernel
theorem dX5_count_80 : decode cX5_count 80 = .ok (.invokevirtual 194, 3) := by decide +kernel
theorem dX5_count_83 : decode cX5_count 83 = .ok (.ireturn, 1) := by decide +kernel
theorem dX5_count_84 : decode cX5_count 84 = .ok (.aload_n 0, 1) := by decide +kernel
theorem dX5_count_85 : decode cX5_count 85 = .ok (.getfield 10, 3) := by decide +kernel
theorem dX5_count_88 : decode cX5_count 88 = .ok (.invokevirtual 201, 3) := by decide +kernel
theorem dX5_count_91 : decode cX5_count 91 = .ok (.ireturn, 1) := by decide +kernel
theorem dX5_count_92 : decode cX5_count 92 = .ok (.aload_n 0, 1) := by decide +kernel
theorem dX5_count_93 : decode cX5_count 93 = .ok (.getfield 10, 3) := by decide +kernel
theorem dX5_count_96 : decode cX5_count 96 = .ok (.invokevirtual 122, 3) := by decide +kernel
theorem dX5_count_99 : decode cX5_count 99 = .ok (.ireturn, 1) := by decide +kernel
theorem dX5_count_100 : decode cX5_count 100 = .ok (.aload_n 0, 1) := by decide +kernel
theorem dX5_count_101 : decode cX5_count 101 = .ok (.getfield 39, 3) := by decide +kernel
theorem dX5_count_104 : decode cX5_count 104 = .ok (.aload_n 0, 1) := by decide +kernel
theorem dX5_count_105 : decode cX5_count 105 = .ok (.getfield 10, 3) := by decide +kernel
theorem dX5_count_108 : decode cX5_count 108 = .ok (.invokevirtual 163, 3) := by decide +kernel
theorem dX5_count_111 : decode cX5_count 111 = .ok (.aload_n 0, 1) := by decide +kernel
theorem dX5_count_112 : decode cX5_count 112 = .ok (.getfield 10, 3) := by decide +kernel
theorem dX5_count_115 : decode cX5_count 115 = .ok (.invokevirtual 72, 3) := by decide +kernel
theorem dX5_count_118 : decode cX5_count 118 = .ok (.aload_n 0, 1) := by decide +kernel
theorem dX5_count_119 : decode cX5_count 119 = .ok (.getfield 39, 3) := by decide +kernel
theorem dX5_count_122 : decode cX5_count 122 = .ok (.invokevirtual 204, 3) := by decide +kernel
theorem dX5_count_125 : decode cX5_count 125 = .ok (.isub, 1) := by decide +kernel
theorem dX5_count_126 : decode cX5_count 126 = .ok (.ireturn, 1) := by decide +kernel
theorem dX5_count_127 : decode cX5_count 127 = .ok (.aload_n 0, 1) := by decide +kernel
theorem dX5_count_128 : decode cX5_count 128 = .ok (.getfield 39, 3) := by decide +kernel
theorem dX5_count_131 : decode cX5_count 131 = .ok (.aload_n 0, 1) := by decide +kernel
theorem dX5_count_132 : decode cX5_count 132 = .ok (.getfield 10, 3) := by decide +kernel
theorem dX5_count_135 : decode cX5_count 135 = .ok (.invokevirtual 163, 3) := by decide +kernel
theorem dX5_count_138 : decode cX5_count 138 = .ok (.aload_n 0, 1) := by decide +kernel
theorem dX5_count_139 : decode cX5_count 139 = .ok (.getfield 39, 3) := by decide +kernel
theorem dX5_count_142 : decode cX5_count 142 = .ok (.invokevirtual 207, 3) := by decide +kernel
theorem dX5_count_145 : decode cX5_count 145 = .ok (.ireturn, 1) := by decide +kernel
theorem dX5_count_146 : decode cX5_count 146 = .ok (.aload_n 0, 1) := by decide +kernel
theorem dX5_count_147 : decode cX5_count 147 = .ok (.getfield 10, 3) := by decide +kernel
theorem dX5_count_150 : decode cX5_count 150 = .ok (.iconst 0, 1) := by decide +kernel
theorem dX5_count_151 : decode cX5_count 151 = .ok (.invokevirtual 125, 3) := by decide +kernel
theorem dX5_count_154 : decode cX5_count 154 = .ok (.ireturn, 1) := by decide +kernel
theorem dX5_count_155 : decode cX5_count 155 = .ok (.aload_n 0, 1) := by decide +kernel
theorem dX5_count_156 : decode cX5_count 156 = .ok (.getfield 10, 3) := by decide +kernel
theorem dX5_count_159 : decode cX5_count 159 = .ok (.iconst 1, 1) := by decide +kernel
theorem dX5_count_160 : decode cX5_count 160 = .ok (.invokevirtual 125, 3) := by decide +kernel
theorem dX5_count_163 : decode cX5_count 163 = .ok (.ireturn, 1) := by decide +kernel
theorem dX5_count_164 : decode cX5_count 164 = .ok (.aload_n 0, 1) := by decide +kernel
theorem dX5_count_165 : decode cX5_count 165 = .ok (.getfield 25, 3) := by decide +kernel
theorem dX5_count_168 : decode cX5_count 168 = .ok (.invokevirtual 160, 3) := by decide +kernel
theorem dX5_count_171 : decode cX5_count 171 = .ok (.ireturn, 1) := by decide +kernel
theorem dX5_count_172 : decode cX5_count 172 = .ok (.aload_n 0, 1) := by decide +kernel
theorem dX5_count_173 : decode cX5_count 173 = .ok (.getfield 46, 3) := by decide +kernel
theorem dX5_count_176 : decode cX5_count 176 = .ok (.invokevirtual 150, 3) := by decide +kernel
theorem dX5_count_179 : decode cX5_count 179 = .ok (.ireturn, 1) := by decide +kernel
theorem dX5_count_180 : decode cX5_count 180 = .ok (.bipush (-2), 2) := by decide +kernel
theorem dX5_count_182 : decode cX5_count 182 = .ok (.ireturn, 1) := by decide +kernel
set_option maxRecDepth 20000 in
theorem ggX5_trySwap_X5_isPlace : GoodIn wsX5_trySwap wsX5_isPlace := goodIn_r _ [7] (by decide +kernel) (by decide +kernel)
set_option maxRecDepth 20000 in
theorem gX5_trySwap_X5_isPlace : GoodIn wsX5_trySwap (va_wsS RX5 54 yX5_isPlace wsX5_isPlace) := goodIn_app (goodIn_of _ (by decide +kernel)) ggX5_trySwap_X5_isPlace
set_option maxRecDepth 20000 in
theorem ggX5_trySwap_X0_hasCell : GoodIn wsX5_trySwap wsX0_hasCell := goodIn_r _ [12, 13, 5, 6, 7, 126, 127, 128, 129, 130, 131, 132] (by decide +kernel) (by decide +kernel)
set_option maxRecDepth 20000 in
theorem gX5_trySwap_X0_hasCell : GoodIn wsX5_trySwap (wsV RX5 61 RX0 yX0_hasCell wsX0_hasCell) := goodIn_app (goodIn_of _ (by decide +kernel)) ggX5_trySwap_X0_hasCell
set_option maxRecDepth 20000 in
theorem ggX5_trySwap_X0_copyFrom : GoodIn wsX5_trySwap wsX0_copyFrom := goodIn_r _ [17, 13, 18, 19, 20, 21, 22, 23, 24, 25, 26, 27, 126, 127, 128, 129, 130, 131, 132] (by decide +kernel) (by decide +kernel)
set_option maxRecDepth 20000 in
theorem gX5_trySwap_X0_copyFrom : GoodIn wsX5_trySwap (wsV RX5 96 RX0 yX0_copyFrom wsX0_copyFrom) := goodIn_app (goodIn_of _ (by decide +kernel)) ggX5_trySwap_X0_copyFrom
set_option maxRecDepth 20000 in
theorem ggX5_trySwap_X0_exchange : GoodIn wsX5_trySwap wsX0_exchange := goodIn_r _ [31, 22, 32, 33, 34, 11, 35, 13, 5, 6, 7, 36, 37, 38, 39, 40, 41, 42, 43, 44, 45, 46, 47, 48, 49, 126, 127, 128, 129, 130, 131, 132] (by decide +kernel) (by decide +kernel)
set_option maxRecDepth 20000 in
theorem gX5_trySwap_X0_exchange : GoodIn wsX5_trySwap (wsV RX5 210 RX0 yX0_exchange wsX0_exchange) := goodIn_app (goodIn_of _ (by decide +kernel)) ggX5_trySwap_X0_exchange
set_option maxRecDepth 20000 in
theorem ggX5_trySwap_X2_layAll : GoodIn wsX5_trySwap wsX2_layAll := goodIn_r _ [54, 55, 56, 57, 11, 58, 23, 25, 59, 60, 61, 62, 63, 64, 65, 66, 40, 41, 42, 43, 22, 44, 6, 45, 67, 68, 69, 70, 71, 72, 73, 74, 75, 76, 77, 53, 78, 79, 80, 81, 5, 7, 82, 83, 84, 85, 86, 87, 88, 89, 90, 91, 92, 93, 94, 95, 96, 26, 97, 27, 98, 99, 100, 101, 24, 102, 103, 104, 105, 106, 107, 108, 109, 110, 111, 112, 4, 113, 114, 115, 116, 117, 126, 127, 128, 129, 130, 131, 132, 133] (by decide +kernel) (by decide +kernel)
set_option maxRecDepth 20000 in
theorem gX5_trySwap_X2_layAll : GoodIn wsX5_trySwap (wsV RX5 142 RX2 yX2_layAll wsX2_layAll) := goodIn_app (goodIn_of _ (by decide +kernel)) ggX5_trySwap_X2_layAll
theorem dX5_trySwap_0 : decode cX5_trySwap 0 = .ok (.iload_n 1, 1) := by decide +kernel
theorem dX5_trySwap_1 : decode cX5_trySwap 1 = .ok (.invokestatic 54, 3) := by decide +kernel
theorem dX5_trySwap_4 : decode cX5_trySwap 4 = .ok (.ifCond .eq 10, 3) := by decide +kernel
theorem dX5_trySwap_7 : decode cX5_trySwap 7 = .ok (.iload_n 2, 1) := by decide +kernel
theorem dX5_trySwap_8 : decode cX5_trySwap 8 = .ok (.invokestatic 54, 3) := by decide +kernel
theorem dX5_trySwap_11 : decode cX5_trySwap 11 = .ok (.ifCond .ne 5, 3) := by decide +kernel
theorem dX5_trySwap_14 : decode cX5_trySwap 14 = .ok (.iconst (-1), 1) := by decide +kernel
theorem dX5_trySwap_15 : decode cX5_trySwap 15 = .ok (.ireturn, 1) := by decide +kernel
theorem dX5_trySwap_16 : decode cX5_trySwap 16 = .ok (.iload_n 1, 1) := by decide +kernel
theorem dX5_trySwap_17 : decode cX5_trySwap 17 = .ok (.iload_n 2, 1) := by decide +kernel
theorem dX5_trySwap_18 : decode cX5_trySwap 18 = .ok (.if_icmp .eq 25, 3) := by decide +kernel
theorem dX5_trySwap_21 : decode cX5_trySwap 21 = .ok (.aload_n 0, 1) := by decide +kernel
theorem dX5_trySwap_22 : decode cX5_trySwap 22 = .ok (.getfield 10, 3) := by decide +kernel
theorem dX5_trySwap_25 : decode cX5_trySwap 25 = .ok (.iload_n 1, 1) := by decide +kernel
theorem dX5_trySwap_26 : decode cX5_trySwap 26 = .ok (.invokevirtual 61, 3) := by decide +kernel
theorem dX5_trySwap_29 : decode cX5_trySwap 29 = .ok (.ifCond .ne 17, 3) := by decide +kernel
theorem dX5_trySwap_32 : decode cX5_trySwap 32 = .ok (.aload_n 0, 1) := by decide +kernel
theorem dX5_trySwap_33 : decode cX5_trySwap 33 = .ok (.getfield 10, 3) := by decide +kernel
theorem dX5_trySwap_36 : decode cX5_trySwap 36 = .ok (.iload_n 2, 1) := by decide +kernel
theorem dX5_trySwap_37 : decode cX5_trySwap 37 = .ok (.invokevirtual 61, 3) := by decide +kernel
theorem dX5_trySwap_40 : decode cX5_trySwap 40 = .ok (.ifCond .ne 6, 3) := by decide +kernel
theorem dX5_trySwap_43 : decode cX5_trySwap 43 = .ok (.bipush (-5), 2) := by decide +kernel
theorem dX5_trySwap_45 : decode cX5_trySwap 45 = .ok (.ireturn, 1) := by decide +kernel
theorem dX5_trySwap_46 : decode cX5_trySwap 46 = .ok (.aload_n 0, 1) := by decide +kernel
theorem dX5_trySwap_47 : decode cX5_trySwap 47 = .ok (.getfield 16, 3) := by decide +kernel
theorem dX5_trySwap_50 : decode cX5_trySwap 50 = .ok (.aload_n 0, 1) := by decide +kernel
theorem dX5_trySwap_51 : decode cX5_trySwap 51 = .ok (.getfield 10, 3) := by decide +kernel
theorem dX5_trySwap_54 : decode cX5_trySwap 54 = .ok (.invokevirtual 96, 3) := by decide +kernel
theorem dX5_trySwap_57 : decode cX5_trySwap 57 = .ok (.aload_n 0, 1) := by decide +kernel
theorem dX5_trySwap_58 : decode cX5_trySwap 58 = .ok (.getfield 16, 3) := by decide +kernel
theorem dX5_trySwap_61 : decode cX5_trySwap 61 = .ok (.iload_n 1, 1) := by decide +kernel
theorem dX5_trySwap_62 : decode cX5_trySwap 62 = .ok (.iload_n 2, 1) := by decide +kernel
theorem dX5_trySwap_63 : decode cX5_trySwap 63 = .ok (.invokevirtual 210, 3) := by decide +kernel
theorem dX5_trySwap_66 : decode cX5_trySwap 66 = .ok (.aload_n 0, 1) := by decide +kernel
theorem dX5_trySwap_67 : decode cX5_trySwap 67 = .ok (.getfield 32, 3) := by decide +kernel
theorem dX5_trySwap_70 : decode cX5_trySwap 70 = .ok (.aload_n 0, 1) := by decide +kernel
theorem dX5_trySwap_71 : decode cX5_trySwap 71 = .ok (.getfield 16, 3) := by decide +kernel
theorem dX5_trySwap_74 : decode cX5_trySwap 74 = .ok (.iconst 0, 1) := by decide +kernel
theorem dX5_trySwap_75 : decode cX5_trySwap 75 = .ok (.invokevirtual 142, 3) := by decide +kernel
theorem dX5_trySwap_78 : decode cX5_trySwap 78 = .ok (.ireturn, 1) := by decide +kernel
set_option maxRecDepth 20000 in
theorem ggX5_tryOrder_X0_copyFrom : GoodIn wsX5_tryOrder wsX0_copyFrom := goodIn_r _ [8, 9, 10, 11, 12, 13, 14, 15, 16, 17, 18, 19, 106, 107, 108, 109, 110, 111, 112] (by decide +kernel) (by decide +kernel)
set_option maxRecDepth 20000 in
theorem gX5_tryOrder_X0_copyFrom : GoodIn wsX5_tryOrder (wsV RX5 96 RX0 yX0_copyFrom wsX0_copyFrom) := goodIn_app (goodIn_of _ (by decide +kernel)) ggX5_tryOrder_X0_copyFrom
set_option maxRecDepth 20000 in
theorem ggX5_tryOrder_X2_layAll : GoodIn wsX5_tryOrder wsX2_layAll := goodIn_r _ [24, 25, 26, 27, 7, 28, 15, 17, 29, 30, 31, 32, 33, 34, 35, 36, 37, 38, 39, 40, 14, 41, 42, 43, 44, 45, 46, 47, 48, 49, 50, 51, 52, 53, 54, 23, 55, 56, 57, 58, 59, 60, 61, 62, 63, 64, 65, 66, 67, 68, 69, 70, 71, 72, 73, 74, 75, 18, 76, 19, 77, 78, 79, 80, 16, 81, 82, 83, 84, 85, 86, 87, 88, 89, 90, 91, 92, 93, 94, 95, 96, 97, 106, 107, 108, 109, 110, 111, 112, 113] (by decide +kernel) (by decide +kernel)
set_option maxRecDepth 20000 in
theorem gX5_tryOrder_X2_layAll : GoodIn wsX5_tryOrder (wsV RX5 142 RX2 yX2_layAll wsX2_layAll) := goodIn_app (goodIn_of _ (by decide +kernel)) ggX5_tryOrder_X2_layAll
theorem dX5_tryOrder_0 : decode cX5_tryOrder 0 = .ok (.aload_n 0, 1) := by decide +kernel
theorem dX5_tryOrder_1 : decode cX5_tryOrder 1 = .ok (.getfield 16, 3) := by decide +kernel
theorem dX5_tryOrder_4 : decode cX5_tryOrder 4 = .ok (.aload_n 0, 1) := by decide +kernel
theorem dX5_tryOrder_5 : decode cX5_tryOrder 5 = .ok (.getfield 10, 3) := by decide +kernel
theorem dX5_tryOrder_8 : decode cX5_tryOrder 8 = .ok (.invokevirtual 96, 3) := by decide +kernel
theorem dX5_tryOrder_11 : decode cX5_tryOrder 11 = .ok (.aload_n 0, 1) := by decide +kernel
theorem dX5_tryOrder_12 : decode cX5_tryOrder 12 = .ok (.getfield 32, 3) := by decide +kernel
theorem dX5_tryOrder_15 : decode cX5_tryOrder 15 = .ok (.aload_n 0, 1) := by decide +kernel
theorem dX5_tryOrder_16 : decode cX5_tryOrder 16 = .ok (.getfield 16, 3) := by decide +kernel
theorem dX5_tryOrder_19 : decode cX5_tryOrder 19 = .ok (.iload_n 1, 1) := by decide +kernel
theorem dX5_tryOrder_20 : decode cX5_tryOrder 20 = .ok (.invokevirtual 142, 3) := by decide +kernel
theorem dX5_tryOrder_23 : decode cX5_tryOrder 23 = .ok (.ireturn, 1) := by decide +kernel
set_option maxRecDepth 20000 in
theorem ggX5_acceptTrial_X1_remember : GoodIn wsX5_acceptTrial wsX1_remember := goodIn_r _ [8, 9, 10, 11, 12, 7, 13, 14, 15, 16, 17, 18, 19, 20, 21, 22, 23, 24, 25, 26, 27, 28, 29, 30, 31, 32, 33, 34, 44, 45, 46, 47, 48, 49, 50, 51, 52] (by decide +kernel) (by decide +kernel)
set_option maxRecDepth 20000 in
theorem gX5_acceptTrial_X1_remember : GoodIn wsX5_acceptTrial (wsV RX5 64 RX1 yX1_remember wsX1_remember) := goodIn_app (goodIn_of _ (by decide +kernel)) ggX5_acceptTrial_X1_remember
set_option maxRecDepth 20000 in
theorem ggX5_acceptTrial_X0_copyFrom : GoodIn wsX5_acceptTrial wsX0_copyFrom := goodIn_r _ [23, 24, 25, 26, 27, 28, 29, 30, 31, 32, 33, 34, 46, 47, 48, 49, 50, 51, 52] (by decide +kernel) (by decide +kernel)
set_option maxRecDepth 20000 in
theorem gX5_acceptTrial_X0_copyFrom : GoodIn wsX5_acceptTrial (wsV RX5 96 RX0 yX0_copyFrom wsX0_copyFrom) := goodIn_app (goodIn_of _ (by decide +kernel)) ggX5_acceptTrial_X0_copyFrom
theorem dX5_acceptTrial_0 : decode cX5_acceptTrial 0 = .ok (.aload_n 0, 1) := by decide +kernel
theorem dX5_acceptTrial_1 : decode cX5_acceptTrial 1 = .ok (.getfield 25, 3) := by decide +kernel
theorem dX5_acceptTrial_4 : decode cX5_acceptTrial 4 = .ok (.aload_n 0, 1) := by decide +kernel
theorem dX5_acceptTrial_5 : decode cX5_acceptTrial 5 = .ok (.getfield 10, 3) := by decide +kernel
theorem dX5_acceptTrial_8 : decode cX5_acceptTrial 8 = .ok (.invokevirtual 64, 3) := by decide +kernel
theorem dX5_acceptTrial_11 : decode cX5_acceptTrial 11 = .ok (.aload_n 0, 1) := by decide +kernel
theorem dX5_acceptTrial_12 : decode cX5_acceptTrial 12 = .ok (.getfield 10, 3) := by decide +kernel
theorem dX5_acceptTrial_15 : decode cX5_acceptTrial 15 = .ok (.aload_n 0, 1) := by decide +kernel
theorem dX5_acceptTrial_16 : decode cX5_acceptTrial 16 = .ok (.getfield 16, 3) := by decide +kernel
theorem dX5_acceptTrial_19 : decode cX5_acceptTrial 19 = .ok (.invokevirtual 96, 3) := by decide +kernel
theorem dX5_acceptTrial_22 : decode cX5_acceptTrial 22 = .ok (.return_, 1) := by decide +kernel
theorem dX5_isPlace_0 : decode cX5_isPlace 0 = .ok (.iload_n 0, 1) := by decide +kernel
theorem dX5_isPlace_1 : decode cX5_isPlace 1 = .ok (.ifCond .lt 13, 3) := by decide +kernel
theorem dX5_isPlace_4 : decode cX5_isPlace 4 = .ok (.iload_n 0, 1) := by decide +kernel
theorem dX5_isPlace_5 : decode cX5_isPlace 5 = .ok (.bipush 24, 2) := by decide +kernel
theorem dX5_isPlace_7 : decode cX5_isPlace 7 = .ok (.if_icmp .ge 7, 3) := by decide +kernel
theorem dX5_isPlace_10 : decode cX5_isPlace 10 = .ok (.iconst 1, 1) := by decide +kernel
theorem dX5_isPlace_11 : decode cX5_isPlace 11 = .ok (.goto 4, 3) := by decide +kernel
theorem dX5_isPlace_14 : decode cX5_isPlace 14 = .ok (.iconst 0, 1) := by decide +kernel
theorem dX5_isPlace_15 : decode cX5_isPlace 15 = .ok (.ireturn, 1) := by decide +kernel
theorem dX5_isInput_0 : decode cX5_isInput 0 = .ok (.iload_n 0, 1) := by decide +kernel
theorem dX5_isInput_1 : decode cX5_isInput 1 = .ok (.ifCond .lt 12, 3) := by decide +kernel
theorem dX5_isInput_4 : decode cX5_isInput 4 = .ok (.iload_n 0, 1) := by decide +kernel
theorem dX5_isInput_5 : decode cX5_isInput 5 = .ok (.iconst 3, 1) := by decide +kernel
theorem dX5_isInput_6 : decode cX5_isInput 6 = .ok (.if_icmp .ge 7, 3) := by decide +kernel
theorem dX5_isInput_9 : decode cX5_isInput 9 = .ok (.iconst 1, 1) := by decide +kernel
theorem dX5_isInput_10 : decode cX5_isInput 10 = .ok (.goto 4, 3) := by decide +kernel
theorem dX5_isInput_13 : decode cX5_isInput 13 = .ok (.iconst 0, 1) := by decide +kernel
theorem dX5_isInput_14 : decode cX5_isInput 14 = .ok (.ireturn, 1) := by decide +kernel
theorem dX5_isWire_0 : decode cX5_isWire 0 = .ok (.iload_n 0, 1) := by decide +kernel
theorem dX5_isWire_1 : decode cX5_isWire 1 = .ok (.ifCond .lt 13, 3) := by decide +kernel
theorem dX5_isWire_4 : decode cX5_isWire 4 = .ok (.iload_n 0, 1) := by decide +kernel
theorem dX5_isWire_5 : decode cX5_isWire 5 = .ok (.bipush 72, 2) := by decide +kernel
theorem dX5_isWire_7 : decode cX5_isWire 7 = .ok (.if_icmp .ge 7, 3) := by decide +kernel
theorem dX5_isWire_10 : decode cX5_isWire 10 = .ok (.iconst 1, 1) := by decide +kernel
theorem dX5_isWire_11 : decode cX5_isWire 11 = .ok (.goto 4, 3) := by decide +kernel
theorem dX5_isWire_14 : decode cX5_isWire 14 = .ok (.iconst 0, 1) := by decide +kernel
theorem dX5_isWire_15 : decode cX5_isWire 15 = .ok (.ireturn, 1) := by decide +kernel
theorem dX5_isTable_0 : decode cX5_isTable 0 = .ok (.iload_n 0, 1) := by decide +kernel
theorem dX5_isTable_1 : decode cX5_isTable 1 = .ok (.ifCond .lt 14, 3) := by decide +kernel
theorem dX5_isTable_4 : decode cX5_isTable 4 = .ok (.iload_n 0, 1) := by decide +kernel
theorem dX5_isTable_5 : decode cX5_isTable 5 = .ok (.sipush 256, 3) := by decide +kernel
theorem dX5_isTable_8 : decode cX5_isTable 8 = .ok (.if_icmp .ge 7, 3) := by decide +kernel
theorem dX5_isTable_11 : decode cX5_isTable 11 = .ok (.iconst 1, 1) := by decide +kernel
theorem dX5_isTable_12 : decode cX5_isTable 12 = .ok (.goto 4, 3) := by decide +kernel
theorem dX5_isTable_15 : decode cX5_isTable 15 = .ok (.iconst 0, 1) := by decide +kernel
theorem dX5_isTable_16 : decode cX5_isTable 16 = .ok (.ireturn, 1) := by decide +kernel
theorem dX5_junctionOf_0 : decode cX5_junctionOf 0 = .ok (.iload_n 0, 1) := by decide +kernel
theorem dX5_junctionOf_1 : decode cX5_junctionOf 1 = .ok (.ifCond .lt 9, 3) := by decide +kernel
theorem dX5_junctionOf_4 : decode cX5_junctionOf 4 = .ok (.iload_n 0, 1) := by decide +kernel
theorem dX5_junctionOf_5 : decode cX5_junctionOf 5 = .ok (.bipush 32, 2) := by decide +kernel
theorem dX5_junctionOf_7 : decode cX5_junctionOf 7 = .ok (.if_icmp .lt 5, 3) := by decide +kernel
theorem dX5_junctionOf_10 : decode cX5_junctionOf 10 = .ok (.iconst (-1), 1) := by decide +kernel
theorem dX5_junctionOf_11 : decode cX5_junctionOf 11 = .ok (.ireturn, 1) := by decide +kernel
theorem dX5_junctionOf_12 : decode cX5_junctionOf 12 = .ok (.iload_n 0, 1) := by decide +kernel
theorem dX5_junctionOf_13 : decode cX5_junctionOf 13 = .ok (.bipush 24, 2) := by decide +kernel
theorem dX5_junctionOf_15 : decode cX5_junctionOf 15 = .ok (.if_icmp .ge 5, 3) := by decide +kernel
theorem dX5_junctionOf_18 : decode cX5_junctionOf 18 = .ok (.iload_n 0, 1) := by decide +kernel
theorem dX5_junctionOf_19 : decode cX5_junctionOf 19 = .ok (.ireturn, 1) := by decide +kernel
theorem dX5_junctionOf_20 : decode cX5_junctionOf 20 = .ok (.iload_n 0, 1) := by decide +kernel
theorem dX5_junctionOf_21 : decode cX5_junctionOf 21 = .ok (.bipush 28, 2) := by decide +kernel
theorem dX5_junctionOf_23 : decode cX5_junctionOf 23 = .ok (.if_icmp .ge 11, 3) := by decide +kernel
theorem dX5_junctionOf_26 : decode cX5_junctionOf 26 = .ok (.iload_n 0, 1) := by decide +kernel
theorem dX5_junctionOf_27 : decode cX5_junctionOf 27 = .ok (.bipush 24, 2) := by decide +kernel
theorem dX5_junctionOf_29 : decode cX5_junctionOf 29 = .ok (.isub, 1) := by decide +kernel
theorem dX5_junctionOf_30 : decode cX5_junctionOf 30 = .ok (.bipush 6, 2) := by decide +kernel
theorem dX5_junctionOf_32 : decode cX5_junctionOf 32 = .ok (.imul, 1) := by decide +kernel
theorem dX5_junctionOf_33 : decode cX5_junctionOf 33 = .ok (.ireturn, 1) := by decide +kernel
theorem dX5_junctionOf_34 : decode cX5_junctionOf 34 = .ok (.iload_n 0, 1) := by decide +kernel
theorem dX5_junctionOf_35 : decode cX5_junctionOf 35 = .ok (.bipush 28, 2) := by decide +kernel
theorem dX5_junctionOf_37 : decode cX5_junctionOf 37 = .ok (.isub, 1) := by decide +kernel
theorem dX5_junctionOf_38 : decode cX5_junctionOf 38 = .ok (.bipush 6, 2) := by decide +kernel
theorem dX5_junctionOf_40 : decode cX5_junctionOf 40 = .ok (.imul, 1) := by decide +kernel
theorem dX5_junctionOf_41 : decode cX5_junctionOf 41 = .ok (.bipush 6, 2) := by decide +kernel
theorem dX5_junctionOf_43 : decode cX5_junctionOf 43 = .ok (.iadd, 1) := by decide +kernel
theorem dX5_junctionOf_44 : decode cX5_junctionOf 44 = .ok (.iconst 1, 1) := by decide +kernel
theorem dX5_junctionOf_45 : decode cX5_junctionOf 45 = .ok (.isub, 1) := by decide +kernel
theorem dX5_junctionOf_46 : decode cX5_junctionOf 46 = .ok (.ireturn, 1) := by decide +kernel
theorem dX5_segmentAt_0 : decode cX5_segmentAt 0 = .ok (.iload_n 0, 1) := by decide +kernel
theorem dX5_segmentAt_1 : decode cX5_segmentAt 1 = .ok (.bipush 6, 2) := by decide +kernel
theorem dX5_segmentAt_3 : decode cX5_segmentAt 3 = .ok (.irem, 1) := by decide +kernel
theorem dX5_segmentAt_4 : decode cX5_segmentAt 4 = .ok (.istore_n 2, 1) := by decide +kernel
theorem dX5_segmentAt_5 : decode cX5_segmentAt 5 = .ok (.iload_n 0, 1) := by decide +kernel
theorem dX5_segmentAt_6 : decode cX5_segmentAt 6 = .ok (.bipush 6, 2) := by decide +kernel
theorem dX5_segmentAt_8 : decode cX5_segmentAt 8 = .ok (.idiv, 1) := by decide +kernel
theorem dX5_segmentAt_9 : decode cX5_segmentAt 9 = .ok (.istore_n 3, 1) := by decide +kernel
theorem dX5_segmentAt_10 : decode cX5_segmentAt 10 = .ok (.iload_n 1, 1) := by decide +kernel
theorem dX5_segmentAt_11 : decode cX5_segmentAt 11 = .ok (.tableswitch 82 0 3 #[29, 45, 57, 68], 29) := by decide +kernel
theorem dX5_segmentAt_40 : decode cX5_segmentAt 40 = .ok (.iload_n 3, 1) := by decide +kernel
theorem dX5_segmentAt_41 : decode cX5_segmentAt 41 = .ok (.ifCond .le 13, 3) := by decide +kernel
theorem dX5_segmentAt_44 : decode cX5_segmentAt 44 = .ok (.bipush 24, 2) := by decide +kernel
theorem dX5_segmentAt_46 : decode cX5_segmentAt 46 = .ok (.iload_n 0, 1) := by decide +kernel
theorem dX5_segmentAt_47 : decode cX5_segmentAt 47 = .ok (.iadd, 1) := by decide +kernel
theorem dX5_segmentAt_48 : decode cX5_segmentAt 48 = .ok (.bipush 6, 2) := by decide +kernel
theorem dX5_segmentAt_50 : decode cX5_segmentAt 50 = .ok (.isub, 1) := by decide +kernel
theorem dX5_segmentAt_51 : decode cX5_segmentAt 51 = .ok (.goto 4, 3) := by decide +kernel
theorem dX5_segmentAt_54 : decode cX5_segmentAt 54 = .ok (.iconst (-1), 1) := by decide +kernel
theorem dX5_segmentAt_55 : decode cX5_segmentAt 55 = .ok (.ireturn, 1) := by decide +kernel
theorem dX5_segmentAt_56 : decode cX5_segmentAt 56 = .ok (.iload_n 2, 1) := by decide +kernel
theorem dX5_segmentAt_57 : decode cX5_segmentAt 57 = .ok (.ifCond .le 9, 3) := by decide +kernel
theorem dX5_segmentAt_60 : decode cX5_segmentAt 60 = .ok (.iload_n 0, 1) := by decide +kernel
theorem dX5_segmentAt_61 : decode cX5_segmentAt 61 = .ok (.iconst 1, 1) := by decide +kernel
theorem dX5_segmentAt_62 : decode cX5_segmentAt 62 = .ok (.isub, 1) := by decide +kernel
theorem dX5_segmentAt_63 : decode cX5_segmentAt 63 = .ok (.goto 4, 3) := by decide +kernel
theorem dX5_segmentAt_66 : decode cX5_segmentAt 66 = .ok (.iconst (-1), 1) := by decide +kernel
theorem dX5_segmentAt_67 : decode cX5_segmentAt 67 = .ok (.ireturn, 1) := by decide +kernel
theorem dX5_segmentAt_68 : decode cX5_segmentAt 68 = .ok (.iload_n 2, 1) := by decide +kernel
theorem dX5_segmentAt_69 : decode cX5_segmentAt 69 = .ok (.iconst 5, 1) := by decide +kernel
theorem dX5_segmentAt_70 : decode cX5_segmentAt 70 = .ok (.if_icmp .ge 7, 3) := by decide +kernel
theorem dX5_segmentAt_73 : decode cX5_segmentAt 73 = .ok (.iload_n 0, 1) := by decide +kernel
theorem dX5_segmentAt_74 : decode cX5_segmentAt 74 = .ok (.goto 4, 3) := by decide +kernel
theorem dX5_segmentAt_77 : decode cX5_segmentAt 77 = .ok (.iconst (-1), 1) := by decide +kernel
theorem dX5_segmentAt_78 : decode cX5_segmentAt 78 = .ok (.ireturn, 1) := by decide +kernel
theorem dX5_segmentAt_79 : decode cX5_segmentAt 79 = .ok (.iload_n 3, 1) := by decide +kernel
theorem dX5_segmentAt_80 : decode cX5_segmentAt 80 = .ok (.iconst 3, 1) := by decide +kernel
theorem dX5_segmentAt_81 : decode cX5_segmentAt 81 = .ok (.if_icmp .ge 10, 3) := by decide +kernel
theorem dX5_segmentAt_84 : decode cX5_segmentAt 84 = .ok (.bipush 24, 2) := by decide +kernel
theorem dX5_segmentAt_86 : decode cX5_segmentAt 86 = .ok (.iload_n 0, 1) := by decide +kernel
theorem dX5_segmentAt_87 : decode cX5_segmentAt 87 = .ok (.iadd, 1) := by decide +kernel
theorem dX5_segmentAt_88 : decode cX5_segmentAt 88 = .ok (.goto 4, 3) := by decide +kernel
theorem dX5_segmentAt_91 : decode cX5_segmentAt 91 = .ok (.iconst (-1), 1) := by decide +kernel
theorem dX5_segmentAt_92 : decode cX5_segmentAt 92 = .ok (.ireturn, 1) := by decide +kernel
theorem dX5_segmentAt_93 : decode cX5_segmentAt 93 = .ok (.iconst (-1), 1) := by decide +kernel
theorem dX5_segmentAt_94 : decode cX5_segmentAt 94 = .ok (.ireturn, 1) := by decide +kernel
set_option maxRecDepth 20000 in
theorem ggX5_segmentBetween_X5_isPlace : GoodIn wsX5_segmentBetween wsX5_isPlace := goodIn_r _ [5] (by decide +kernel) (by decide +kernel)
set_option maxRecDepth 20000 in
theorem gX5_segmentBetween_X5_isPlace : GoodIn wsX5_segmentBetween (va_wsS RX5 54 yX5_isPlace wsX5_isPlace) := goodIn_app (goodIn_of _ (by decide +kernel)) ggX5_segmentBetween_X5_isPlace
set_option maxRecDepth 20000 in
theorem ggX5_segmentBetween_X5_segmentAt : GoodIn wsX5_segmentBetween wsX5_segmentAt := goodIn_r _ [8] (by decide +kernel) (by decide +kernel)
set_option maxRecDepth 20000 in
theorem gX5_segmentBetween_X5_segmentAt : GoodIn wsX5_segmentBetween (va_wsS RX5 217 yX5_segmentAt wsX5_segmentAt) := goodIn_app (goodIn_of _ (by decide +kernel)) ggX5_segmentBetween_X5_segmentAt
theorem dX5_segmentBetween_0 : decode cX5_segmentBetween 0 = .ok (.iload_n 0, 1) := by decide +kernel
theorem dX5_segmentBetween_1 : decode cX5_segmentBetween 1 = .ok (.invokestatic 54, 3) := by decide +kernel
theorem dX5_segmentBetween_4 : decode cX5_segmentBetween 4 = .ok (.ifCond .eq 10, 3) := by decide +kernel
theorem dX5_segmentBetween_7 : decode cX5_segmentBetween 7 = .ok (.iload_n 1, 1) := by decide +kernel
theorem dX5_segmentBetween_8 : decode cX5_segmentBetween 8 = .ok (.invokestatic 54, 3) := by decide +kernel
theorem dX5_segmentBetween_11 : decode cX5_segmentBetween 11 = .ok (.ifCond .ne 5, 3) := by decide +kernel
theorem dX5_segmentBetween_14 : decode cX5_segmentBetween 14 = .ok (.iconst (-1), 1) := by decide +kernel
theorem dX5_segmentBetween_15 : decode cX5_segmentBetween 15 = .ok (.ireturn, 1) := by decide +kernel
theorem dX5_segmentBetween_16 : decode cX5_segmentBetween 16 = .ok (.iconst 0, 1) := by decide +kernel
theorem dX5_segmentBetween_17 : decode cX5_segmentBetween 17 = .ok (.istore_n 2, 1) := by decide +kernel
theorem dX5_segmentBetween_18 : decode cX5_segmentBetween 18 = .ok (.iload_n 2, 1) := by decide +kernel
theorem dX5_segmentBetween_19 : decode cX5_segmentBetween 19 = .ok (.iconst 4, 1) := by decide +kernel
theorem dX5_segmentBetween_20 : decode cX5_segmentBetween 20 = .ok (.if_icmp .ge 26, 3) := by decide +kernel
theorem dX5_segmentBetween_23 : decode cX5_segmentBetween 23 = .ok (.iload_n 0, 1) := by decide +kernel
theorem dX5_segmentBetween_24 : decode cX5_segmentBetween 24 = .ok (.getstatic 213, 3) := by decide +kernel
theorem dX5_segmentBetween_27 : decode cX5_segmentBetween 27 = .ok (.iload_n 2, 1) := by decide +kernel
theorem dX5_segmentBetween_28 : decode cX5_segmentBetween 28 = .ok (.iaload, 1) := by decide +kernel
theorem dX5_segmentBetween_29 : decode cX5_segmentBetween 29 = .ok (.iadd, 1) := by decide +kernel
theorem dX5_segmentBetween_30 : decode cX5_segmentBetween 30 = .ok (.iload_n 1, 1) := by decide +kernel
theorem dX5_segmentBetween_31 : decode cX5_segmentBetween 31 = .ok (.if_icmp .ne 9, 3) := by decide +kernel
theorem dX5_segmentBetween_34 : decode cX5_segmentBetween 34 = .ok (.iload_n 0, 1) := by decide +kernel
theorem dX5_segmentBetween_35 : decode cX5_segmentBetween 35 = .ok (.iload_n 2, 1) := by decide +kernel
theorem dX5_segmentBetween_36 : decode cX5_segmentBetween 36 = .ok (.invokestatic 217, 3) := by decide +kernel
theorem dX5_segmentBetween_39 : decode cX5_segmentBetween 39 = .ok (.ireturn, 1) := by decide +kernel
theorem dX5_segmentBetween_40 : decode cX5_segmentBetween 40 = .ok (.iinc 2 1, 3) := by decide +kernel
theorem dX5_segmentBetween_43 : decode cX5_segmentBetween 43 = .ok (.goto (-25), 3) := by decide +kernel
theorem dX5_segmentBetween_46 : decode cX5_segmentBetween 46 = .ok (.iconst (-1), 1) := by decide +kernel
theorem dX5_segmentBetween_47 : decode cX5_segmentBetween 47 = .ok (.ireturn, 1) := by decide +kernel
theorem dX5_distanceBetween_0 : decode cX5_distanceBetween 0 = .ok (.iload_n 0, 1) := by decide +kernel
theorem dX5_distanceBetween_1 : decode cX5_distanceBetween 1 = .ok (.bipush 6, 2) := by decide +kernel
theorem dX5_distanceBetween_3 : decode cX5_distanceBetween 3 = .ok (.irem, 1) := by decide +kernel
theorem dX5_distanceBetween_4 : decode cX5_distanceBetween 4 = .ok (.iload_n 1, 1) := by decide +kernel
theorem dX5_distanceBetween_5 : decode cX5_distanceBetween 5 = .ok (.bipush 6, 2) := by decide +kernel
theorem dX5_distanceBetween_7 : decode cX5_distanceBetween 7 = .ok (.irem, 1) := by decide +kernel
theorem dX5_distanceBetween_8 : decode cX5_distanceBetween 8 = .ok (.isub, 1) := by decide +kernel
theorem dX5_distanceBetween_9 : decode cX5_distanceBetween 9 = .ok (.invokestatic 220, 3) := by decide +kernel
theorem dX5_distanceBetween_12 : decode cX5_distanceBetween 12 = .ok (.iload_n 0, 1) := by decide +kernel
theorem dX5_distanceBetween_13 : decode cX5_distanceBetween 13 = .ok (.bipush 6, 2) := by decide +kernel
theorem dX5_distanceBetween_15 : decode cX5_distanceBetween 15 = .ok (.idiv, 1) := by decide +kernel
theorem dX5_distanceBetween_16 : decode cX5_distanceBetween 16 = .ok (.iload_n 1, 1) := by decide +kernel
theorem dX5_distanceBetween_17 : decode cX5_distanceBetween 17 = .ok (.bipush 6, 2) := by decide +kernel
theorem dX5_distanceBetween_19 : decode cX5_distanceBetween 19 = .ok (.idiv, 1) := by decide +kernel
theorem dX5_distanceBetween_20 : decode cX5_distanceBetween 20 = .ok (.isub, 1) := by decide +kernel
theorem dX5_distanceBetween_21 : decode cX5_distanceBetween 21 = .ok (.invokestatic 220, 3) := by decide +kernel
theorem dX5_distanceBetween_24 : decode cX5_distanceBetween 24 = .ok (.iadd, 1) := by decide +kernel
theorem dX5_distanceBetween_25 : decode cX5_distanceBetween 25 = .ok (.ireturn, 1) := by decide +kernel
end
section
theorem dX6_init_0 : decode cX6_init 0 = .ok (.aload_n 0, 1) := by decide +kernel
theorem dX6_init_1 : decode cX6_init 1 = .ok (.invokespecial 1, 3) := by decide +kernel
theorem dX6_init_4 : decode cX6_init 4 = .ok (.aload_n 0, 1) := by decide +kernel
theorem dX6_init_5 : decode cX6_init 5 = .ok (.sipush 1898, 3) := by decide +kernel
theorem dX6_init_8 : decode cX6_init 8 = .ok (.newarray .int, 2) := by decide +kernel
theorem dX6_init_10 : decode cX6_init 10 = .ok (.putfield 7, 3) := by decide +kernel
theorem dX6_init_13 : decode cX6_init 13 = .ok (.aload_n 0, 1) := by decide +kernel
theorem dX6_init_14 : decode cX6_init 14 = .ok (.sipush 1898, 3) := by decide +kernel
theorem dX6_init_17 : decode cX6_init 17 = .ok (.newarray .int, 2) := by decide +kernel
theorem dX6_init_19 : decode cX6_init 19 = .ok (.putfield 13, 3) := by decide +kernel
theorem dX6_init_22 : decode cX6_init 22 = .ok (.aload_n 0, 1) := by decide +kernel
theorem dX6_init_23 : decode cX6_init 23 = .ok (.sipush 7592, 3) := by decide +kernel
theorem dX6_init_26 : decode cX6_init 26 = .ok (.newarray .int, 2) := by decide +kernel
theorem dX6_init_28 : decode cX6_init 28 = .ok (.putfield 16, 3) := by decide +kernel
theorem dX6_init_31 : decode cX6_init 31 = .ok (.aload_n 0, 1) := by decide +kernel
theorem dX6_init_32 : decode cX6_init 32 = .ok (.sipush 1898, 3) := by decide +kernel
theorem dX6_init_35 : decode cX6_init 35 = .ok (.newarray .int, 2) := by decide +kernel
theorem dX6_init_37 : decode cX6_init 37 = .ok (.putfield 19, 3) := by decide +kernel
theorem dX6_init_40 : decode cX6_init 40 = .ok (.aload_n 0, 1) := by decide +kernel
theorem dX6_init_41 : decode cX6_init 41 = .ok (.bipush 80, 2) := by decide +kernel
theorem dX6_init_43 : decode cX6_init 43 = .ok (.newarray .char, 2) := by decide +kernel
theorem dX6_init_45 : decode cX6_init 45 = .ok (.putfield 22, 3) := by decide +kernel
theorem dX6_init_48 : decode cX6_init 48 = .ok (.aload_n 0, 1) := by decide +kernel
theorem dX6_init_49 : decode cX6_init 49 = .ok (.bipush 48, 2) := by decide +kernel
theorem dX6_init_51 : decode cX6_init 51 = .ok (.newarray .int, 2) := by decide +kernel
theorem dX6_init_53 : decode cX6_init 53 = .ok (.putfield 26, 3) := by decide +kernel
theorem dX6_init_56 : decode cX6_init 56 = .ok (.aload_n 0, 1) := by decide +kernel
theorem dX6_init_57 : decode cX6_init 57 = .ok (.bipush 24, 2) := by decide +kernel
theorem dX6_init_59 : decode cX6_init 59 = .ok (.newarray .int, 2) := by decide +kernel
theorem dX6_init_61 : decode cX6_init 61 = .ok (.putfield 29, 3) := by decide +kernel
theorem dX6_init_64 : decode cX6_init 64 = .ok (.aload_n 0, 1) := by decide +kernel
theorem dX6_init_65 : decode cX6_init 65 = .ok (.bipush 72, 2) := by decide +kernel
theorem dX6_init_67 : decode cX6_init 67 = .ok (.newarray .boolean, 2) := by decide +kernel
theorem dX6_init_69 : decode cX6_init 69 = .ok (.putfield 32, 3) := by decide +kernel
theorem dX6_init_72 : decode cX6_init 72 = .ok (.aload_n 0, 1) := by decide +kernel
theorem dX6_init_73 : decode cX6_init 73 = .ok (.bipush 96, 2) := by decide +kernel
theorem dX6_init_75 : decode cX6_init 75 = .ok (.newarray .int, 2) := by decide +kernel
theorem dX6_init_77 : decode cX6_init 77 = .ok (.putfield 36, 3) := by decide +kernel
theorem dX6_init_80 : decode cX6_init 80 = .ok (.aload_n 0, 1) := by decide +kernel
theorem dX6_init_81 : decode cX6_init 81 = .ok (.bipush 24, 2) := by decide +kernel
theorem dX6_init_83 : decode cX6_init 83 = .ok (.newarray .int, 2) := by decide +kernel
theorem dX6_init_85 : decode cX6_init 85 = .ok (.putfield 39, 3) := by decide +kernel
theorem dX6_init_88 : decode cX6_init 88 = .ok (.aload_n 0, 1) := by decide +kernel
theorem dX6_init_89 : decode cX6_init 89 = .ok (.bipush 24, 2) := by decide +kernel
theorem dX6_init_91 : decode cX6_init 91 = .ok (.newarray .int, 2) := by decide +kernel
theorem dX6_init_93 : decode cX6_init 93 = .ok (.putfield 42, 3) := by decide +kernel
theorem dX6_init_96 : decode cX6_init 96 = .ok (.iconst 0, 1) := by decide +kernel
theorem dX6_init_97 : decode cX6_init 97 = .ok (.istore_n 1, 1) := by decide +kernel
theorem dX6_init_98 : decode cX6_init 98 = .ok (.iload_n 1, 1) := by decide +kernel
theorem dX6_init_99 : decode cX6_init 99 = .ok (.bipush 24, 2) := by decide +kernel
theorem dX6_init_101 : decode cX6_init 101 = .ok (.if_icmp .ge 19, 3) := by decide +kernel
theorem dX6_init_104 : decode cX6_init 104 = .ok (.aload_n 0, 1) := by decide +kernel
theorem dX6_init_105 : decode cX6_init 105 = .ok (.getfield 7, 3) := by decide +kernel
theorem dX6_init_108 : decode cX6_init 108 = .ok (.iconst 0, 1) := by decide +kernel
theorem dX6_init_109 : decode cX6_init 109 = .ok (.iload_n 1, 1) := by decide +kernel
theorem dX6_init_110 : decode cX6_init 110 = .ok (.iadd, 1) := by decide +kernel
theorem dX6_init_111 : decode cX6_init 111 = .ok (.bipush (-5), 2) := by decide +kernel
theorem dX6_init_113 : decode cX6_init 113 = .ok (.iastore, 1) := by decide +kernel
theorem dX6_init_114 : decode cX6_init 114 = .ok (.iinc 1 1, 3) := by decide +kernel
theorem dX6_init_117 : decode cX6_init 117 = .ok (.goto (-19), 3) := by decide +kernel
theorem dX6_init_120 : decode cX6_init 120 = .ok (.iconst 0, 1) := by decide +kernel
theorem dX6_init_121 : decode cX6_init 121 = .ok (.istore_n 1, 1) := by decide +kernel
theorem dX6_init_122 : decode cX6_init 122 = .ok (.iload_n 1, 1) := by decide +kernel
theorem dX6_init_123 : decode cX6_init 123 = .ok (.bipush 72, 2) := by decide +kernel
theorem dX6_init_125 : decode cX6_init 125 = .ok (.if_icmp .ge 20, 3) := by decide +kernel
theorem dX6_init_128 : decode cX6_init 128 = .ok (.aload_n 0, 1) := by decide +kernel
theorem dX6_init_129 : decode cX6_init 129 = .ok (.getfield 7, 3) := by decide +kernel
theorem dX6_init_132 : decode cX6_init 132 = .ok (.bipush 24, 2) := by decide +kernel
theorem dX6_init_134 : decode cX6_init 134 = .ok (.iload_n 1, 1) := by decide +kernel
theorem dX6_init_135 : decode cX6_init 135 = .ok (.iadd, 1) := by decide +kernel
theorem dX6_init_136 : decode cX6_init 136 = .ok (.bipush 32, 2) := by decide +kernel
theorem dX6_init_138 : decode cX6_init 138 = .ok (.iastore, 1) := by decide +kernel
theorem dX6_init_139 : decode cX6_init 139 = .ok (.iinc 1 1, 3) := by decide +kernel
theorem dX6_init_142 : decode cX6_init 142 = .ok (.goto (-20), 3) := by decide +kernel
theorem dX6_init_145 : decode cX6_init 145 = .ok (.aload_n 0, 1) := by decide +kernel
theorem dX6_init_146 : decode cX6_init 146 = .ok (.getfield 7, 3) := by decide +kernel
theorem dX6_init_149 : decode cX6_init 149 = .ok (.sipush 1896, 3) := by decide +kernel
theorem dX6_init_152 : decode cX6_init 152 = .ok (.iconst 2, 1) := by decide +kernel
theorem dX6_init_153 : decode cX6_init 153 = .ok (.iastore, 1) := by decide +kernel
theorem dX6_init_154 : decode cX6_init 154 = .ok (.aload_n 0, 1) := by decide +kernel
theorem dX6_init_155 : decode cX6_init 155 = .ok (.getfield 7, 3) := by decide +kernel
theorem dX6_init_158 : decode cX6_init 158 = .ok (.sipush 1897, 3) := by decide +kernel
theorem dX6_init_161 : decode cX6_init 161 = .ok (.iconst 1, 1) := by decide +kernel
theorem dX6_init_162 : decode cX6_init 162 = .ok (.iastore, 1) := by decide +kernel
theorem dX6_init_163 : decode cX6_init 163 = .ok (.return_, 1) := by decide +kernel
theorem dX6_in_0 : decode cX6_in 0 = .ok (.iload_n 0, 1) := by decide +kernel
theorem dX6_in_1 : decode cX6_in 1 = .ok (.iload_n 1, 1) := by decide +kernel
theorem dX6_in_2 : decode cX6_in 2 = .ok (.if_icmp .lt 12, 3) := by decide +kernel
theorem dX6_in_5 : decode cX6_in 5 = .ok (.iload_n 0, 1) := by decide +kernel
theorem dX6_in_6 : decode cX6_in 6 = .ok (.iload_n 2, 1) := by decide +kernel
theorem dX6_in_7 : decode cX6_in 7 = .ok (.if_icmp .gt 7, 3) := by decide +kernel
theorem dX6_in_10 : decode cX6_in 10 = .ok (.iconst 1, 1) := by decide +kernel
theorem dX6_in_11 : decode cX6_in 11 = .ok (.goto 4, 3) := by decide +kernel
theorem dX6_in_14 : decode cX6_in 14 = .ok (.iconst 0, 1) := by decide +kernel
theorem dX6_in_15 : decode cX6_in 15 = .ok (.ireturn, 1) := by decide +kernel
theorem dX6_lays_0 : decode cX6_lays 0 = .ok (.iconst 0, 1) := by decide +kernel
theorem dX6_lays_1 : decode cX6_lays 1 = .ok (.istore 4, 2) := by decide +kernel
theorem dX6_lays_3 : decode cX6_lays 3 = .ok (.iload 4, 2) := by decide +kernel
theorem dX6_lays_5 : decode cX6_lays 5 = .ok (.sipush 1898, 3) := by decide +kernel
theorem dX6_lays_8 : decode cX6_lays 8 = .ok (.if_icmp .ge 21, 3) := by decide +kernel
theorem dX6_lays_11 : decode cX6_lays 11 = .ok (.aload_n 2, 1) := by decide +kernel
theorem dX6_lays_12 : decode cX6_lays 12 = .ok (.iload_n 3, 1) := by decide +kernel
theorem dX6_lays_13 : decode cX6_lays 13 = .ok (.iload 4, 2) := by decide +kernel
theorem dX6_lays_15 : decode cX6_lays 15 = .ok (.iadd, 1) := by decide +kernel
theorem dX6_lays_16 : decode cX6_lays 16 = .ok (.aload_n 0, 1) := by decide +kernel
theorem dX6_lays_17 : decode cX6_lays 17 = .ok (.iload_n 1, 1) := by decide +kernel
theorem dX6_lays_18 : decode cX6_lays 18 = .ok (.iload 4, 2) := by decide +kernel
theorem dX6_lays_20 : decode cX6_lays 20 = .ok (.iadd, 1) := by decide +kernel
theorem dX6_lays_21 : decode cX6_lays 21 = .ok (.iaload, 1) := by decide +kernel
theorem dX6_lays_22 : decode cX6_lays 22 = .ok (.iastore, 1) := by decide +kernel
theorem dX6_lays_23 : decode cX6_lays 23 = .ok (.iinc 4 1, 3) := by decide +kernel
theorem dX6_lays_26 : decode cX6_lays 26 = .ok (.goto (-23), 3) := by decide +kernel
theorem dX6_lays_29 : decode cX6_lays 29 = .ok (.return_, 1) := by decide +kernel
set_option maxRecDepth 20000 in
theorem ggX6_records_X6_lays : GoodIn wsX6_records wsX6_lays := goodIn_r _ [7] (by decide +kernel) (by decide +kernel)
set_option maxRecDepth 20000 in
theorem gX6_records_X6_lays : GoodIn wsX6_records (va_wsS RX6 49 yX6_lays wsX6_lays) := goodIn_app (goodIn_of _ (by decide +kernel)) ggX6_records_X6_lays
theorem dX6_records_0 : decode cX6_records 0 = .ok (.aload_n 0, 1) := by decide +kernel
theorem dX6_records_1 : decode cX6_records 1 = .ok (.getfield 45, 3) := by decide +kernel
theorem dX6_records_4 : decode cX6_records 4 = .ok (.iconst 4, 1) := by decide +kernel
theorem dX6_records_5 : decode cX6_records 5 = .ok (.if_icmp .ne 44, 3) := by decide +kernel
theorem dX6_records_8 : decode cX6_records 8 = .ok (.iconst 0, 1) := by decide +kernel
theorem dX6_records_9 : decode cX6_records 9 = .ok (.istore_n 1, 1) := by decide +kernel
theorem dX6_records_10 : decode cX6_records 10 = .ok (.iload_n 1, 1) := by decide +kernel
theorem dX6_records_11 : decode cX6_records 11 = .ok (.sipush 5694, 3) := by decide +kernel
theorem dX6_records_14 : decode cX6_records 14 = .ok (.if_icmp .ge 25, 3) := by decide +kernel
theorem dX6_records_17 : decode cX6_records 17 = .ok (.aload_n 0, 1) := by decide +kernel
theorem dX6_records_18 : decode cX6_records 18 = .ok (.getfield 16, 3) := by decide +kernel
theorem dX6_records_21 : decode cX6_records 21 = .ok (.iload_n 1, 1) := by decide +kernel
theorem dX6_records_22 : decode cX6_records 22 = .ok (.aload_n 0, 1) := by decide +kernel
theorem dX6_records_23 : decode cX6_records 23 = .ok (.getfield 16, 3) := by decide +kernel
theorem dX6_records_26 : decode cX6_records 26 = .ok (.iload_n 1, 1) := by decide +kernel
theorem dX6_records_27 : decode cX6_records 27 = .ok (.sipush 1898, 3) := by decide +kernel
theorem dX6_records_30 : decode cX6_records 30 = .ok (.iadd, 1) := by decide +kernel
theorem dX6_records_31 : decode cX6_records 31 = .ok (.iaload, 1) := by decide +kernel
theorem dX6_records_32 : decode cX6_records 32 = .ok (.iastore, 1) := by decide +kernel
theorem dX6_records_33 : decode cX6_records 33 = .ok (.iinc 1 1, 3) := by decide +kernel
theorem dX6_records_36 : decode cX6_records 36 = .ok (.goto (-26), 3) := by decide +kernel
theorem dX6_records_39 : decode cX6_records 39 = .ok (.aload_n 0, 1) := by decide +kernel
theorem dX6_records_40 : decode cX6_records 40 = .ok (.dup, 1) := by decide +kernel
theorem dX6_records_41 : decode cX6_records 41 = .ok (.getfield 45, 3) := by decide +kernel
theorem dX6_records_44 : decode cX6_records 44 = .ok (.iconst 1, 1) := by decide +kernel
theorem dX6_records_45 : decode cX6_records 45 = .ok (.isub, 1) := by decide +kernel
theorem dX6_records_46 : decode cX6_records 46 = .ok (.putfield 45, 3) := by decide +kernel
theorem dX6_records_49 : decode cX6_records 49 = .ok (.aload_n 0, 1) := by decide +kernel
theorem dX6_records_50 : decode cX6_records 50 = .ok (.getfield 7, 3) := by decide +kernel
theorem dX6_records_53 : decode cX6_records 53 = .ok (.iconst 0, 1) := by decide +kernel
theorem dX6_records_54 : decode cX6_records 54 = .ok (.aload_n 0, 1) := by decide +kernel
theorem dX6_records_55 : decode cX6_records 55 = .ok (.getfield 16, 3) := by decide +kernel
theorem dX6_records_58 : decode cX6_records 58 = .ok (.sipush 1898, 3) := by decide +kernel
theorem dX6_records_61 : decode cX6_records 61 = .ok (.aload_n 0, 1) := by decide +kernel
theorem dX6_records_62 : decode cX6_records 62 = .ok (.getfield 45, 3) := by decide +kernel
theorem dX6_records_65 : decode cX6_records 65 = .ok (.imul, 1) := by decide +kernel
theorem dX6_records_66 : decode cX6_records 66 = .ok (.invokestatic 49, 3) := by decide +kernel
theorem dX6_records_69 : decode cX6_records 69 = .ok (.aload_n 0, 1) := by decide +kernel
theorem dX6_records_70 : decode cX6_records 70 = .ok (.dup, 1) := by decide +kernel
theorem dX6_records_71 : decode cX6_records 71 = .ok (.getfield 45, 3) := by decide +kernel
theorem dX6_records_74 : decode cX6_records 74 = .ok (.iconst 1, 1) := by decide +kernel
theorem dX6_records_75 : decode cX6_records 75 = .ok (.iadd, 1) := by decide +kernel
theorem dX6_records_76 : decode cX6_records 76 = .ok (.putfield 45, 3) := by decide +kernel
theorem dX6_records_79 : decode cX6_records 79 = .ok (.return_, 1) := by decide +kernel
set_option maxRecDepth 20000 in
theorem ggX6_isPlace_X6_in : GoodIn wsX6_isPlace wsX6_in := goodIn_r _ [4] (by decide +kernel) (by decide +kernel)
set_option maxRecDepth 20000 in
theorem gX6_isPlace_X6_in : GoodIn wsX6_isPlace (va_wsS RX6 53 yX6_in wsX6_in) := goodIn_app (goodIn_of _ (by decide +kernel)) ggX6_isPlace_X6_in
theorem dX6_isPlace_0 : decode cX6_isPlace 0 = .ok (.iload_n 0, 1) := by decide +kernel
theorem dX6_isPlace_1 : decode cX6_isPlace 1 = .ok (.iconst 0, 1) := by decide +kernel
theorem dX6_isPlace_2 : decode cX6_isPlace 2 = .ok (.bipush 23, 2) := by decide +kernel
theorem dX6_isPlace_4 : decode cX6_isPlace 4 = .ok (.invokestatic 53, 3) := by decide +kernel
theorem dX6_isPlace_7 : decode cX6_isPlace 7 = .ok (.ireturn, 1) := by decide +kernel
set_option maxRecDepth 20000 in
theorem ggX6_isCell_X6_isPlace : GoodIn wsX6_isCell wsX6_isPlace := goodIn_r _ [4, 5, 6, 3, 7] (by decide +kernel) (by decide +kernel)
set_option maxRecDepth 20000 in
theorem gX6_isCell_X6_isPlace : GoodIn wsX6_isCell (va_wsS RX6 57 yX6_isPlace wsX6_isPlace) := goodIn_app (goodIn_of _ (by decide +kernel)) ggX6_isCell_X6_isPlace
theorem dX6_isCell_0 : decode cX6_isCell 0 = .ok (.iload_n 1, 1) := by decide +kernel
theorem dX6_isCell_1 : decode cX6_isCell 1 = .ok (.invokestatic 57, 3) := by decide +kernel
theorem dX6_isCell_4 : decode cX6_isCell 4 = .ok (.ifCond .eq 17, 3) := by decide +kernel
theorem dX6_isCell_7 : decode cX6_isCell 7 = .ok (.aload_n 0, 1) := by decide +kernel
theorem dX6_isCell_8 : decode cX6_isCell 8 = .ok (.iconst 0, 1) := by decide +kernel
theorem dX6_isCell_9 : decode cX6_isCell 9 = .ok (.iload_n 1, 1) := by decide +kernel
theorem dX6_isCell_10 : decode cX6_isCell 10 = .ok (.iadd, 1) := by decide +kernel
theorem dX6_isCell_11 : decode cX6_isCell 11 = .ok (.iaload, 1) := by decide +kernel
theorem dX6_isCell_12 : decode cX6_isCell 12 = .ok (.bipush (-5), 2) := by decide +kernel
theorem dX6_isCell_14 : decode cX6_isCell 14 = .ok (.if_icmp .eq 7, 3) := by decide +kernel
theorem dX6_isCell_17 : decode cX6_isCell 17 = .ok (.iconst 1, 1) := by decide +kernel
theorem dX6_isCell_18 : decode cX6_isCell 18 = .ok (.goto 4, 3) := by decide +kernel
theorem dX6_isCell_21 : decode cX6_isCell 21 = .ok (.iconst 0, 1) := by decide +kernel
theorem dX6_isCell_22 : decode cX6_isCell 22 = .ok (.ireturn, 1) := by decide +kernel
set_option maxRecDepth 20000 in
theorem ggX6_cells_X6_isCell : GoodIn wsX6_cells wsX6_isCell := goodIn_r _ [4, 5, 6, 3, 7, 8, 9, 10] (by decide +kernel) (by decide +kernel)
set_option maxRecDepth 20000 in
theorem gX6_cells_X6_isCell : GoodIn wsX6_cells (va_wsS RX6 61 yX6_isCell wsX6_isCell) := goodIn_app (goodIn_of _ (by decide +kernel)) ggX6_cells_X6_isCell
theorem dX6_cells_0 : decode cX6_cells 0 = .ok (.iconst 0, 1) := by decide +kernel
theorem dX6_cells_1 : decode cX6_cells 1 = .ok (.istore_n 1, 1) := by decide +kernel
theorem dX6_cells_2 : decode cX6_cells 2 = .ok (.iconst 0, 1) := by decide +kernel
theorem dX6_cells_3 : decode cX6_cells 3 = .ok (.istore_n 2, 1) := by decide +kernel
theorem dX6_cells_4 : decode cX6_cells 4 = .ok (.iload_n 2, 1) := by decide +kernel
theorem dX6_cells_5 : decode cX6_cells 5 = .ok (.bipush 24, 2) := by decide +kernel
theorem dX6_cells_7 : decode cX6_cells 7 = .ok (.if_icmp .ge 25, 3) := by decide +kernel
theorem dX6_cells_10 : decode cX6_cells 10 = .ok (.iload_n 1, 1) := by decide +kernel
theorem dX6_cells_11 : decode cX6_cells 11 = .ok (.aload_n 0, 1) := by decide +kernel
theorem dX6_cells_12 : decode cX6_cells 12 = .ok (.iload_n 2, 1) := by decide +kernel
theorem dX6_cells_13 : decode cX6_cells 13 = .ok (.invokestatic 61, 3) := by decide +kernel
theorem dX6_cells_16 : decode cX6_cells 16 = .ok (.ifCond .eq 7, 3) := by decide +kernel
theorem dX6_cells_19 : decode cX6_cells 19 = .ok (.iconst 1, 1) := by decide +kernel
theorem dX6_cells_20 : decode cX6_cells 20 = .ok (.goto 4, 3) := by decide +kernel
theorem dX6_cells_23 : decode cX6_cells 23 = .ok (.iconst 0, 1) := by decide +kernel
theorem dX6_cells_24 : decode cX6_cells 24 = .ok (.iadd, 1) := by decide +kernel
theorem dX6_cells_25 : decode cX6_cells 25 = .ok (.istore_n 1, 1) := by decide +kernel
theorem dX6_cells_26 : decode cX6_cells 26 = .ok (.iinc 2 1, 3) := by decide +kernel
theorem dX6_cells_29 : decode cX6_cells 29 = .ok (.goto (-25), 3) := by decide +kernel
theorem dX6_cells_32 : decode cX6_cells 32 = .ok (.iload_n 1, 1) := by decide +kernel
theorem dX6_cells_33 : decode cX6_cells 33 = .ok (.ireturn, 1) := by decide +kernel
theorem dX6_junction_0 : decode cX6_junction 0 = .ok (.iload_n 0, 1) := by decide +kernel
theorem dX6_junction_1 : decode cX6_junction 1 = .ok (.bipush 24, 2) := by decide +kernel
theorem dX6_junction_3 : decode cX6_junction 3 = .ok (.if_icmp .ge 7, 3) := by decide +kernel
theorem dX6_junction_6 : decode cX6_junction 6 = .ok (.iload_n 0, 1) := by decide +kernel
theorem dX6_junction_7 : decode cX6_junction 7 = .ok (.goto 32, 3) := by decide +kernel
theorem dX6_junction_10 : decode cX6_junction 10 = .ok (.iload_n 0, 1) := by decide +kernel
theorem dX6_junction_11 : decode cX6_junction 11 = .ok (.bipush 32, 2) := by decide +kernel
theorem dX6_junction_13 : decode cX6_junction 13 = .ok (.if_icmp .lt 8, 3) := by decide +kernel
theorem dX6_junction_16 : decode cX6_junction 16 = .ok (.bipush (-5), 2) := by decide +kernel
theorem dX6_junction_18 : decode cX6_junction 18 = .ok (.goto 21, 3) := by decide +kernel
theorem dX6_junction_21 : decode cX6_junction 21 = .ok (.bipush 6, 2) := by decide +kernel
theorem dX6_junction_23 : decode cX6_junction 23 = .ok (.iload_n 0, 1) := by decide +kernel
theorem dX6_junction_24 : decode cX6_junction 24 = .ok (.iconst 4, 1) := by decide +kernel
theorem dX6_junction_25 : decode cX6_junction 25 = .ok (.irem, 1) := by decide +kernel
theorem dX6_junction_26 : decode cX6_junction 26 = .ok (.imul, 1) := by decide +kernel
theorem dX6_junction_27 : decode cX6_junction 27 = .ok (.iload_n 0, 1) := by decide +kernel
theorem dX6_junction_28 : decode cX6_junction 28 = .ok (.bipush 28, 2) := by decide +kernel
theorem dX6_junction_30 : decode cX6_junction 30 = .ok (.if_icmp .ge 7, 3) := by decide +kernel
theorem dX6_junction_33 : decode cX6_junction 33 = .ok (.iconst 0, 1) := by decide +kernel
theorem dX6_junction_34 : decode cX6_junction 34 = .ok (.goto 4, 3) := by decide +kernel
theorem dX6_junction_37 : decode cX6_junction 37 = .ok (.iconst 5, 1) := by decide +kernel
theorem dX6_junction_38 : decode cX6_junction 38 = .ok (.iadd, 1) := by decide +kernel
theorem dX6_junction_39 : decode cX6_junction 39 = .ok (.ireturn, 1) := by decide +kernel
set_option maxRecDepth 20000 in
theorem ggX6_isWire_X6_isCell : GoodIn wsX6_isWire wsX6_isCell := goodIn_r _ [4, 5, 6, 3, 7, 8, 9, 10] (by decide +kernel) (by decide +kernel)
set_option maxRecDepth 20000 in
theorem gX6_isWire_X6_isCell : GoodIn wsX6_isWire (va_wsS RX6 61 yX6_isCell wsX6_isCell) := goodIn_app (goodIn_of _ (by decide +kernel)) ggX6_isWire_X6_isCell
theorem dX6_isWire_0 : decode cX6_isWire 0 = .ok (.aload_n 0, 1) := by decide +kernel
theorem dX6_isWire_1 : decode cX6_isWire 1 = .ok (.iload_n 1, 1) := by decide +kernel
theorem dX6_isWire_2 : decode cX6_isWire 2 = .ok (.iconst 3, 1) := by decide +kernel
theorem dX6_isWire_3 : decode cX6_isWire 3 = .ok (.idiv, 1) := by decide +kernel
theorem dX6_isWire_4 : decode cX6_isWire 4 = .ok (.invokestatic 61, 3) := by decide +kernel
theorem dX6_isWire_7 : decode cX6_isWire 7 = .ok (.ifCond .eq 18, 3) := by decide +kernel
theorem dX6_isWire_10 : decode cX6_isWire 10 = .ok (.aload_n 0, 1) := by decide +kernel
theorem dX6_isWire_11 : decode cX6_isWire 11 = .ok (.bipush 24, 2) := by decide +kernel
theorem dX6_isWire_13 : decode cX6_isWire 13 = .ok (.iload_n 1, 1) := by decide +kernel
theorem dX6_isWire_14 : decode cX6_isWire 14 = .ok (.iadd, 1) := by decide +kernel
theorem dX6_isWire_15 : decode cX6_isWire 15 = .ok (.iaload, 1) := by decide +kernel
theorem dX6_isWire_16 : decode cX6_isWire 16 = .ok (.bipush 32, 2) := by decide +kernel
theorem dX6_isWire_18 : decode cX6_isWire 18 = .ok (.if_icmp .ge 7, 3) := by decide +kernel
theorem dX6_isWire_21 : decode cX6_isWire 21 = .ok (.iconst 1, 1) := by decide +kernel
theorem dX6_isWire_22 : decode cX6_isWire 22 = .ok (.goto 4, 3) := by decide +kernel
theorem dX6_isWire_25 : decode cX6_isWire 25 = .ok (.iconst 0, 1) := by decide +kernel
theorem dX6_isWire_26 : decode cX6_isWire 26 = .ok (.ireturn, 1) := by decide +kernel
theorem dX6_areBeside_0 : decode cX6_areBeside 0 = .ok (.iload_n 0, 1) := by decide +kernel
theorem dX6_areBeside_1 : decode cX6_areBeside 1 = .ok (.iload_n 1, 1) := by decide +kernel
theorem dX6_areBeside_2 : decode cX6_areBeside 2 = .ok (.if_icmp .ge 9, 3) := by decide +kernel
theorem dX6_areBeside_5 : decode cX6_areBeside 5 = .ok (.iload_n 1, 1) := by decide +kernel
theorem dX6_areBeside_6 : decode cX6_areBeside 6 = .ok (.iload_n 0, 1) := by decide +kernel
theorem dX6_areBeside_7 : decode cX6_areBeside 7 = .ok (.isub, 1) := by decide +kernel
theorem dX6_areBeside_8 : decode cX6_areBeside 8 = .ok (.goto 6, 3) := by decide +kernel
theorem dX6_areBeside_11 : decode cX6_areBeside 11 = .ok (.iload_n 0, 1) := by decide +kernel
theorem dX6_areBeside_12 : decode cX6_areBeside 12 = .ok (.iload_n 1, 1) := by decide +kernel
theorem dX6_areBeside_13 : decode cX6_areBeside 13 = .ok (.isub, 1) := by decide +kernel
theorem dX6_areBeside_14 : decode cX6_areBeside 14 = .ok (.istore_n 2, 1) := by decide +kernel
theorem dX6_areBeside_15 : decode cX6_areBeside 15 = .ok (.iload_n 2, 1) := by decide +kernel
theorem dX6_areBeside_16 : decode cX6_areBeside 16 = .ok (.bipush 6, 2) := by decide +kernel
theorem dX6_areBeside_18 : decode cX6_areBeside 18 = .ok (.if_icmp .eq 19, 3) := by decide +kernel
theorem dX6_areBeside_21 : decode cX6_areBeside 21 = .ok (.iload_n 2, 1) := by decide +kernel
theorem dX6_areBeside_22 : decode cX6_areBeside 22 = .ok (.iconst 1, 1) := by decide +kernel
theorem dX6_areBeside_23 : decode cX6_areBeside 23 = .ok (.if_icmp .ne 18, 3) := by decide +kernel
theorem dX6_areBeside_26 : decode cX6_areBeside 26 = .ok (.iload_n 0, 1) := by decide +kernel
theorem dX6_areBeside_27 : decode cX6_areBeside 27 = .ok (.bipush 6, 2) := by decide +kernel
theorem dX6_areBeside_29 : decode cX6_areBeside 29 = .ok (.idiv, 1) := by decide +kernel
theorem dX6_areBeside_30 : decode cX6_areBeside 30 = .ok (.iload_n 1, 1) := by decide +kernel
theorem dX6_areBeside_31 : decode cX6_areBeside 31 = .ok (.bipush 6, 2) := by decide +kernel
theorem dX6_areBeside_33 : decode cX6_areBeside 33 = .ok (.idiv, 1) := by decide +kernel
theorem dX6_areBeside_34 : decode cX6_areBeside 34 = .ok (.if_icmp .ne 7, 3) := by decide +kernel
theorem dX6_areBeside_37 : decode cX6_areBeside 37 = .ok (.iconst 1, 1) := by decide +kernel
theorem dX6_areBeside_38 : decode cX6_areBeside 38 = .ok (.goto 4, 3) := by decide +kernel
theorem dX6_areBeside_41 : decode cX6_areBeside 41 = .ok (.iconst 0, 1) := by decide +kernel
theorem dX6_areBeside_42 : decode cX6_areBeside 42 = .ok (.ireturn, 1) := by decide +kernel
theorem dX6_segment_0 : decode cX6_segment 0 = .ok (.iload_n 0, 1) := by decide +kernel
theorem dX6_segment_1 : decode cX6_segment 1 = .ok (.iload_n 1, 1) := by decide +kernel
theorem dX6_segment_2 : decode cX6_segment 2 = .ok (.if_icmp .ge 7, 3) := by decide +kernel
theorem dX6_segment_5 : decode cX6_segment 5 = .ok (.iload_n 0, 1) := by decide +kernel
theorem dX6_segment_6 : decode cX6_segment 6 = .ok (.goto 4, 3) := by decide +kernel
theorem dX6_segment_9 : decode cX6_segment 9 = .ok (.iload_n 1, 1) := by decide +kernel
theorem dX6_segment_10 : decode cX6_segment 10 = .ok (.istore_n 2, 1) := by decide +kernel
theorem dX6_segment_11 : decode cX6_segment 11 = .ok (.iload_n 0, 1) := by decide +kernel
theorem dX6_segment_12 : decode cX6_segment 12 = .ok (.iload_n 1, 1) := by decide +kernel
theorem dX6_segment_13 : decode cX6_segment 13 = .ok (.if_icmp .ge 7, 3) := by decide +kernel
theorem dX6_segment_16 : decode cX6_segment 16 = .ok (.iload_n 1, 1) := by decide +kernel
theorem dX6_segment_17 : decode cX6_segment 17 = .ok (.goto 4, 3) := by decide +kernel
theorem dX6_segment_20 : decode cX6_segment 20 = .ok (.iload_n 0, 1) := by decide +kernel
theorem dX6_segment_21 : decode cX6_segment 21 = .ok (.istore_n 3, 1) := by decide +kernel
theorem dX6_segment_22 : decode cX6_segment 22 = .ok (.iload_n 3, 1) := by decide +kernel
theorem dX6_segment_23 : decode cX6_segment 23 = .ok (.iload_n 2, 1) := by decide +kernel
theorem dX6_segment_24 : decode cX6_segment 24 = .ok (.isub, 1) := by decide +kernel
theorem dX6_segment_25 : decode cX6_segment 25 = .ok (.bipush 6, 2) := by decide +kernel
theorem dX6_segment_27 : decode cX6_segment 27 = .ok (.if_icmp .ne 10, 3) := by decide +kernel
theorem dX6_segment_30 : decode cX6_segment 30 = .ok (.bipush 24, 2) := by decide +kernel
theorem dX6_segment_32 : decode cX6_segment 32 = .ok (.iload_n 2, 1) := by decide +kernel
theorem dX6_segment_33 : decode cX6_segment 33 = .ok (.iadd, 1) := by decide +kernel
theorem dX6_segment_34 : decode cX6_segment 34 = .ok (.goto 4, 3) := by decide +kernel
theorem dX6_segment_37 : decode cX6_segment 37 = .ok (.iload_n 2, 1) := by decide +kernel
theorem dX6_segment_38 : decode cX6_segment 38 = .ok (.ireturn, 1) := by decide +kernel
set_option maxRecDepth 20000 in
theorem ggX6_counts_X6_segment : GoodIn wsX6_counts wsX6_segment := goodIn_r _ [5] (by decide +kernel) (by decide +kernel)
set_option maxRecDepth 20000 in
theorem gX6_counts_X6_segment : GoodIn wsX6_counts (va_wsS RX6 65 yX6_segment wsX6_segment) := goodIn_app (goodIn_of _ (by decide +kernel)) ggX6_counts_X6_segment
theorem dX6_counts_0 : decode cX6_counts 0 = .ok (.iconst 0, 1) := by decide +kernel
theorem dX6_counts_1 : decode cX6_counts 1 = .ok (.istore_n 2, 1) := by decide +kernel
theorem dX6_counts_2 : decode cX6_counts 2 = .ok (.iload_n 2, 1) := by decide +kernel
theorem dX6_counts_3 : decode cX6_counts 3 = .ok (.bipush 48, 2) := by decide +kernel
theorem dX6_counts_5 : decode cX6_counts 5 = .ok (.if_icmp .ge 16, 3) := by decide +kernel
theorem dX6_counts_8 : decode cX6_counts 8 = .ok (.aload_n 0, 1) := by decide +kernel
theorem dX6_counts_9 : decode cX6_counts 9 = .ok (.getfield 26, 3) := by decide +kernel
theorem dX6_counts_12 : decode cX6_counts 12 = .ok (.iload_n 2, 1) := by decide +kernel
theorem dX6_counts_13 : decode cX6_counts 13 = .ok (.iconst 0, 1) := by decide +kernel
theorem dX6_counts_14 : decode cX6_counts 14 = .ok (.iastore, 1) := by decide +kernel
theorem dX6_counts_15 : decode cX6_counts 15 = .ok (.iinc 2 1, 3) := by decide +kernel
theorem dX6_counts_18 : decode cX6_counts 18 = .ok (.goto (-16), 3) := by decide +kernel
theorem dX6_counts_21 : decode cX6_counts 21 = .ok (.iconst 0, 1) := by decide +kernel
theorem dX6_counts_22 : decode cX6_counts 22 = .ok (.istore_n 2, 1) := by decide +kernel
theorem dX6_counts_23 : decode cX6_counts 23 = .ok (.iload_n 2, 1) := by decide +kernel
theorem dX6_counts_24 : decode cX6_counts 24 = .ok (.bipush 72, 2) := by decide +kernel
theorem dX6_counts_26 : decode cX6_counts 26 = .ok (.if_icmp .ge 61, 3) := by decide +kernel
theorem dX6_counts_29 : decode cX6_counts 29 = .ok (.iconst 1, 1) := by decide +kernel
theorem dX6_counts_30 : decode cX6_counts 30 = .ok (.istore_n 3, 1) := by decide +kernel
theorem dX6_counts_31 : decode cX6_counts 31 = .ok (.iload_n 3, 1) := by decide +kernel
theorem dX6_counts_32 : decode cX6_counts 32 = .ok (.aload_n 1, 1) := by decide +kernel
theorem dX6_counts_33 : decode cX6_counts 33 = .ok (.bipush 96, 2) := by decide +kernel
theorem dX6_counts_35 : decode cX6_counts 35 = .ok (.iload_n 2, 1) := by decide +kernel
theorem dX6_counts_36 : decode cX6_counts 36 = .ok (.iadd, 1) := by decide +kernel
theorem dX6_counts_37 : decode cX6_counts 37 = .ok (.iaload, 1) := by decide +kernel
theorem dX6_counts_38 : decode cX6_counts 38 = .ok (.if_icmp .ge 43, 3) := by decide +kernel
theorem dX6_counts_41 : decode cX6_counts 41 = .ok (.sipush 168, 3) := by decide +kernel
theorem dX6_counts_44 : decode cX6_counts 44 = .ok (.bipush 24, 2) := by decide +kernel
theorem dX6_counts_46 : decode cX6_counts 46 = .ok (.iload_n 2, 1) := by decide +kernel
theorem dX6_counts_47 : decode cX6_counts 47 = .ok (.imul, 1) := by decide +kernel
theorem dX6_counts_48 : decode cX6_counts 48 = .ok (.iadd, 1) := by decide +kernel
theorem dX6_counts_49 : decode cX6_counts 49 = .ok (.iload_n 3, 1) := by decide +kernel
theorem dX6_counts_50 : decode cX6_counts 50 = .ok (.iadd, 1) := by decide +kernel
theorem dX6_counts_51 : decode cX6_counts 51 = .ok (.istore 4, 2) := by decide +kernel
theorem dX6_counts_53 : decode cX6_counts 53 = .ok (.aload_n 0, 1) := by decide +kernel
theorem dX6_counts_54 : decode cX6_counts 54 = .ok (.getfield 26, 3) := by decide +kernel
theorem dX6_counts_57 : decode cX6_counts 57 = .ok (.aload_n 1, 1) := by decide +kernel
theorem dX6_counts_58 : decode cX6_counts 58 = .ok (.iload 4, 2) := by decide +kernel
theorem dX6_counts_60 : decode cX6_counts 60 = .ok (.iconst 1, 1) := by decide +kernel
theorem dX6_counts_61 : decode cX6_counts 61 = .ok (.isub, 1) := by decide +kernel
theorem dX6_counts_62 : decode cX6_counts 62 = .ok (.iaload, 1) := by decide +kernel
theorem dX6_counts_63 : decode cX6_counts 63 = .ok (.aload_n 1, 1) := by decide +kernel
theorem dX6_counts_64 : decode cX6_counts 64 = .ok (.iload 4, 2) := by decide +kernel
theorem dX6_counts_66 : decode cX6_counts 66 = .ok (.iaload, 1) := by decide +kernel
theorem dX6_counts_67 : decode cX6_counts 67 = .ok (.invokestatic 65, 3) := by decide +kernel
theorem dX6_counts_70 : decode cX6_counts 70 = .ok (.dup2, 1) := by decide +kernel
theorem dX6_counts_71 : decode cX6_counts 71 = .ok (.iaload, 1) := by decide +kernel
theorem dX6_counts_72 : decode cX6_counts 72 = .ok (.iconst 1, 1) := by decide +kernel
theorem dX6_counts_73 : decode cX6_counts 73 = .ok (.iadd, 1) := by decide +kernel
theorem dX6_counts_74 : decode cX6_counts 74 = .ok (.iastore, 1) := by decide +kernel
theorem dX6_counts_75 : decode cX6_counts 75 = .ok (.iinc 3 1, 3) := by decide +kernel
theorem dX6_counts_78 : decode cX6_counts 78 = .ok (.goto (-47), 3) := by decide +kernel
theorem dX6_counts_81 : decode cX6_counts 81 = .ok (.iinc 2 1, 3) := by decide +kernel
theorem dX6_counts_84 : decode cX6_counts 84 = .ok (.goto (-61), 3) := by decide +kernel
theorem dX6_counts_87 : decode cX6_counts 87 = .ok (.return_, 1) := by decide +kernel
theorem dX6_mostHeld_0 : decode cX6_mostHeld 0 = .ok (.iconst 0, 1) := by decide +kernel
theorem dX6_mostHeld_1 : decode cX6_mostHeld 1 = .ok (.istore_n 1, 1) := by decide +kernel
theorem dX6_mostHeld_2 : decode cX6_mostHeld 2 = .ok (.iconst 0, 1) := by decide +kernel
theorem dX6_mostHeld_3 : decode cX6_mostHeld 3 = .ok (.istore_n 2, 1) := by decide +kernel
theorem dX6_mostHeld_4 : decode cX6_mostHeld 4 = .ok (.iload_n 2, 1) := by decide +kernel
theorem dX6_mostHeld_5 : decode cX6_mostHeld 5 = .ok (.bipush 48, 2) := by decide +kernel
theorem dX6_mostHeld_7 : decode cX6_mostHeld 7 = .ok (.if_icmp .ge 30, 3) := by decide +kernel
theorem dX6_mostHeld_10 : decode cX6_mostHeld 10 = .ok (.aload_n 0, 1) := by decide +kernel
theorem dX6_mostHeld_11 : decode cX6_mostHeld 11 = .ok (.getfield 26, 3) := by decide +kernel
theorem dX6_mostHeld_14 : decode cX6_mostHeld 14 = .ok (.iload_n 2, 1) := by decide +kernel
theorem dX6_mostHeld_15 : decode cX6_mostHeld 15 = .ok (.iaload, 1) := by decide +kernel
theorem dX6_mostHeld_16 : decode cX6_mostHeld 16 = .ok (.iload_n 1, 1) := by decide +kernel
theorem dX6_mostHeld_17 : decode cX6_mostHeld 17 = .ok (.if_icmp .le 12, 3) := by decide +kernel
theorem dX6_mostHeld_20 : decode cX6_mostHeld 20 = .ok (.aload_n 0, 1) := by decide +kernel
theorem dX6_mostHeld_21 : decode cX6_mostHeld 21 = .ok (.getfield 26, 3) := by decide +kernel
theorem dX6_mostHeld_24 : decode cX6_mostHeld 24 = .ok (.iload_n 2, 1) := by decide +kernel
theorem dX6_mostHeld_25 : decode cX6_mostHeld 25 = .ok (.iaload, 1) := by decide +kernel
theorem dX6_mostHeld_26 : decode cX6_mostHeld 26 = .ok (.goto 4, 3) := by decide +kernel
theorem dX6_mostHeld_29 : decode cX6_mostHeld 29 = .ok (.iload_n 1, 1) := by decide +kernel
theorem dX6_mostHeld_30 : decode cX6_mostHeld 30 = .ok (.istore_n 1, 1) := by decide +kernel
theorem dX6_mostHeld_31 : decode cX6_mostHeld 31 = .ok (.iinc 2 1, 3) := by decide +kernel
theorem dX6_mostHeld_34 : decode cX6_mostHeld 34 = .ok (.goto (-30), 3) := by decide +kernel
theorem dX6_mostHeld_37 : decode cX6_mostHeld 37 = .ok (.iload_n 1, 1) := by decide +kernel
theorem dX6_mostHeld_38 : decode cX6_mostHeld 38 = .ok (.ireturn, 1) := by decide +kernel
set_option maxRecDepth 20000 in
theorem ggX6_cost_X6_segment : GoodIn wsX6_cost wsX6_segment := goodIn_r _ [6] (by decide +kernel) (by decide +kernel)
set_option maxRecDepth 20000 in
theorem gX6_cost_X6_segment : GoodIn wsX6_cost (va_wsS RX6 65 yX6_segment wsX6_segment) := goodIn_app (goodIn_of _ (by decide +kernel)) ggX6_cost_X6_segment
theorem dX6_cost_0 : decode cX6_cost 0 = .ok (.aload_n 0, 1) := by decide +kernel
theorem dX6_cost_1 : decode cX6_cost 1 = .ok (.getfield 26, 3) := by decide +kernel
theorem dX6_cost_4 : decode cX6_cost 4 = .ok (.iload_n 2, 1) := by decide +kernel
theorem dX6_cost_5 : decode cX6_cost 5 = .ok (.iload_n 3, 1) := by decide +kernel
theorem dX6_cost_6 : decode cX6_cost 6 = .ok (.invokestatic 65, 3) := by decide +kernel
theorem dX6_cost_9 : decode cX6_cost 9 = .ok (.iaload, 1) := by decide +kernel
theorem dX6_cost_10 : decode cX6_cost 10 = .ok (.istore 4, 2) := by decide +kernel
theorem dX6_cost_12 : decode cX6_cost 12 = .ok (.iload 4, 2) := by decide +kernel
theorem dX6_cost_14 : decode cX6_cost 14 = .ok (.aload_n 1, 1) := by decide +kernel
theorem dX6_cost_15 : decode cX6_cost 15 = .ok (.sipush 1896, 3) := by decide +kernel
theorem dX6_cost_18 : decode cX6_cost 18 = .ok (.iaload, 1) := by decide +kernel
theorem dX6_cost_19 : decode cX6_cost 19 = .ok (.if_icmp .lt 8, 3) := by decide +kernel
theorem dX6_cost_22 : decode cX6_cost 22 = .ok (.ldc 69, 2) := by decide +kernel
theorem dX6_cost_24 : decode cX6_cost 24 = .ok (.goto 13, 3) := by decide +kernel
theorem dX6_cost_27 : decode cX6_cost 27 = .ok (.iconst 1, 1) := by decide +kernel
theorem dX6_cost_28 : decode cX6_cost 28 = .ok (.iload 4, 2) := by decide +kernel
theorem dX6_cost_30 : decode cX6_cost 30 = .ok (.aload_n 1, 1) := by decide +kernel
theorem dX6_cost_31 : decode cX6_cost 31 = .ok (.sipush 1897, 3) := by decide +kernel
theorem dX6_cost_34 : decode cX6_cost 34 = .ok (.iaload, 1) := by decide +kernel
theorem dX6_cost_35 : decode cX6_cost 35 = .ok (.imul, 1) := by decide +kernel
theorem dX6_cost_36 : decode cX6_cost 36 = .ok (.iadd, 1) := by decide +kernel
theorem dX6_cost_37 : decode cX6_cost 37 = .ok (.ireturn, 1) := by decide +kernel
set_option maxRecDepth 20000 in
theorem ggX6_reaches_X6_beside : GoodIn wsX6_reaches wsX6_beside := goodIn_r _ [6, 7, 8, 5, 9, 10, 11, 12, 13, 14, 15] (by decide +kernel) (by decide +kernel)
set_option maxRecDepth 20000 in
theorem gX6_reaches_X6_beside : GoodIn wsX6_reaches (va_wsS RX6 70 yX6_beside wsX6_beside) := goodIn_app (goodIn_of _ (by decide +kernel)) ggX6_reaches_X6_beside
set_option maxRecDepth 20000 in
theorem ggX6_reaches_X6_cost : GoodIn wsX6_reaches wsX6_cost := goodIn_r _ [19, 20, 2, 21, 22, 5, 23, 24, 25, 26, 27, 28, 29, 30, 31, 32, 33, 34, 35, 36, 37, 38, 39] (by decide +kernel) (by decide +kernel)
set_option maxRecDepth 20000 in
theorem gX6_reaches_X6_cost : GoodIn wsX6_reaches (wsV RX6 73 RX6 yX6_cost wsX6_cost) := goodIn_app (goodIn_of _ (by decide +kernel)) ggX6_reaches_X6_cost
theorem dX6_reaches_0 : decode cX6_reaches 0 = .ok (.iconst 0, 1) := by decide +kernel
theorem dX6_reaches_1 : decode cX6_reaches 1 = .ok (.istore_n 3, 1) := by decide +kernel
theorem dX6_reaches_2 : decode cX6_reaches 2 = .ok (.iload_n 3, 1) := by decide +kernel
theorem dX6_reaches_3 : decode cX6_reaches 3 = .ok (.bipush 24, 2) := by decide +kernel
theorem dX6_reaches_5 : decode cX6_reaches 5 = .ok (.if_icmp .ge 26, 3) := by decide +kernel
theorem dX6_reaches_8 : decode cX6_reaches 8 = .ok (.aload_n 0, 1) := by decide +kernel
theorem dX6_reaches_9 : decode cX6_reaches 9 = .ok (.getfield 29, 3) := by decide +kernel
theorem dX6_reaches_12 : decode cX6_reaches 12 = .ok (.iload_n 3, 1) := by decide +kernel
theorem dX6_reaches_13 : decode cX6_reaches 13 = .ok (.iload_n 3, 1) := by decide +kernel
theorem dX6_reaches_14 : decode cX6_reaches 14 = .ok (.iload_n 2, 1) := by decide +kernel
theorem dX6_reaches_15 : decode cX6_reaches 15 = .ok (.if_icmp .ne 7, 3) := by decide +kernel
theorem dX6_reaches_18 : decode cX6_reaches 18 = .ok (.iconst 0, 1) := by decide +kernel
theorem dX6_reaches_19 : decode cX6_reaches 19 = .ok (.goto 5, 3) := by decide +kernel
theorem dX6_reaches_22 : decode cX6_reaches 22 = .ok (.ldc 69, 2) := by decide +kernel
theorem dX6_reaches_24 : decode cX6_reaches 24 = .ok (.iastore, 1) := by decide +kernel
theorem dX6_reaches_25 : decode cX6_reaches 25 = .ok (.iinc 3 1, 3) := by decide +kernel
theorem dX6_reaches_28 : decode cX6_reaches 28 = .ok (.goto (-26), 3) := by decide +kernel
theorem dX6_reaches_31 : decode cX6_reaches 31 = .ok (.iconst 1, 1) := by decide +kernel
theorem dX6_reaches_32 : decode cX6_reaches 32 = .ok (.istore_n 3, 1) := by decide +kernel
theorem dX6_reaches_33 : decode cX6_reaches 33 = .ok (.iload_n 3, 1) := by decide +kernel
theorem dX6_reaches_34 : decode cX6_reaches 34 = .ok (.ifCond .eq 95, 3) := by decide +kernel
theorem dX6_reaches_37 : decode cX6_reaches 37 = .ok (.iconst 0, 1) := by decide +kernel
theorem dX6_reaches_38 : decode cX6_reaches 38 = .ok (.istore_n 3, 1) := by decide +kernel
theorem dX6_reaches_39 : decode cX6_reaches 39 = .ok (.iconst 0, 1) := by decide +kernel
theorem dX6_reaches_40 : decode cX6_reaches 40 = .ok (.istore 4, 2) := by decide +kernel
theorem dX6_reaches_42 : decode cX6_reaches 42 = .ok (.iload 4, 2) := by decide +kernel
theorem dX6_reaches_44 : decode cX6_reaches 44 = .ok (.bipush 96, 2) := by decide +kernel
theorem dX6_reaches_46 : decode cX6_reaches 46 = .ok (.if_icmp .ge 80, 3) := by decide +kernel
theorem dX6_reaches_49 : decode cX6_reaches 49 = .ok (.iload 4, 2) := by decide +kernel
theorem dX6_reaches_51 : decode cX6_reaches 51 = .ok (.iconst 4, 1) := by decide +kernel
theorem dX6_reaches_52 : decode cX6_reaches 52 = .ok (.idiv, 1) := by decide +kernel
theorem dX6_reaches_53 : decode cX6_reaches 53 = .ok (.istore 5, 2) := by decide +kernel
theorem dX6_reaches_55 : decode cX6_reaches 55 = .ok (.iload 5, 2) := by decide +kernel
theorem dX6_reaches_57 : decode cX6_reaches 57 = .ok (.iload 4, 2) := by decide +kernel
theorem dX6_reaches_59 : decode cX6_reaches 59 = .ok (.iconst 4, 1) := by decide +kernel
theorem dX6_reaches_60 : decode cX6_reaches 60 = .ok (.irem, 1) := by decide +kernel
theorem dX6_reaches_61 : decode cX6_reaches 61 = .ok (.invokestatic 70, 3) := by decide +kernel
theorem dX6_reaches_64 : decode cX6_reaches 64 = .ok (.istore 6, 2) := by decide +kernel
theorem dX6_reaches_66 : decode cX6_reaches 66 = .ok (.iload 6, 2) := by decide +kernel
theorem dX6_reaches_68 : decode cX6_reaches 68 = .ok (.bipush (-5), 2) := by decide +kernel
theorem dX6_reaches_70 : decode cX6_reaches 70 = .ok (.if_icmp .ne 8, 3) := by decide +kernel
theorem dX6_reaches_73 : decode cX6_reaches 73 = .ok (.ldc 69, 2) := by decide +kernel
theorem dX6_reaches_75 : decode cX6_reaches 75 = .ok (.goto 20, 3) := by decide +kernel
theorem dX6_reaches_78 : decode cX6_reaches 78 = .ok (.aload_n 0, 1) := by decide +kernel
theorem dX6_reaches_79 : decode cX6_reaches 79 = .ok (.getfield 29, 3) := by decide +kernel
theorem dX6_reaches_82 : decode cX6_reaches 82 = .ok (.iload 6, 2) := by decide +kernel
theorem dX6_reaches_84 : decode cX6_reaches 84 = .ok (.iaload, 1) := by decide +kernel
theorem dX6_reaches_85 : decode cX6_reaches 85 = .ok (.aload_n 0, 1) := by decide +kernel
theorem dX6_reaches_86 : decode cX6_reaches 86 = .ok (.aload_n 1, 1) := by decide +kernel
theorem dX6_reaches_87 : decode cX6_reaches 87 = .ok (.iload 5, 2) := by decide +kernel
theorem dX6_reaches_89 : decode cX6_reaches 89 = .ok (.iload 6, 2) := by decide +kernel
theorem dX6_reaches_91 : decode cX6_reaches 91 = .ok (.invokevirtual 73, 3) := by decide +kernel
theorem dX6_reaches_94 : decode cX6_reaches 94 = .ok (.iadd, 1) := by decide +kernel
theorem dX6_reaches_95 : decode cX6_reaches 95 = .ok (.istore 7, 2) := by decide +kernel
theorem dX6_reaches_97 : decode cX6_reaches 97 = .ok (.iload 7, 2) := by decide +kernel
theorem dX6_reaches_99 : decode cX6_reaches 99 = .ok (.aload_n 0, 1) := by decide +kernel
theorem dX6_reaches_100 : decode cX6_reaches 100 = .ok (.getfield 29, 3) := by decide +kernel
theorem dX6_reaches_103 : decode cX6_reaches 103 = .ok (.iload 5, 2) := by decide +kernel
theorem dX6_reaches_105 : decode cX6_reaches 105 = .ok (.iaload, 1) := by decide +kernel
theorem dX6_reaches_106 : decode cX6_reaches 106 = .ok (.if_icmp .ge 14, 3) := by decide +kernel
theorem dX6_reaches_109 : decode cX6_reaches 109 = .ok (.aload_n 0, 1) := by decide +kernel
theorem dX6_reaches_110 : decode cX6_reaches 110 = .ok (.getfield 29, 3) := by decide +kernel
theorem dX6_reaches_113 : decode cX6_reaches 113 = .ok (.iload 5, 2) := by decide +kernel
theorem dX6_reaches_115 : decode cX6_reaches 115 = .ok (.iload 7, 2) := by decide +kernel
theorem dX6_reaches_117 : decode cX6_reaches 117 = .ok (.iastore, 1) := by decide +kernel
theorem dX6_reaches_118 : decode cX6_reaches 118 = .ok (.iconst 1, 1) := by decide +kernel
theorem dX6_reaches_119 : decode cX6_reaches 119 = .ok (.istore_n 3, 1) := by decide +kernel
theorem dX6_reaches_120 : decode cX6_reaches 120 = .ok (.iinc 4 1, 3) := by decide +kernel
theorem dX6_reaches_123 : decode cX6_reaches 123 = .ok (.goto (-81), 3) := by decide +kernel
theorem dX6_reaches_126 : decode cX6_reaches 126 = .ok (.goto (-93), 3) := by decide +kernel
theorem dX6_reaches_129 : decode cX6_reaches 129 = .ok (.return_, 1) := by decide +kernel
set_option maxRecDepth 20000 in
theorem ggX6_beside_X6_isPlace : GoodIn wsX6_beside wsX6_isPlace := goodIn_r _ [4, 5, 6, 3, 7] (by decide +kernel) (by decide +kernel)
set_option maxRecDepth 20000 in
theorem gX6_beside_X6_isPlace : GoodIn wsX6_beside (va_wsS RX6 57 yX6_isPlace wsX6_isPlace) := goodIn_app (goodIn_of _ (by decide +kernel)) ggX6_beside_X6_isPlace
set_option maxRecDepth 20000 in
theorem ggX6_beside_X6_areBeside : GoodIn wsX6_beside wsX6_areBeside := goodIn_r _ [10] (by decide +kernel) (by decide +kernel)
set_option maxRecDepth 20000 in
theorem gX6_beside_X6_areBeside : GoodIn wsX6_beside (va_wsS RX6 77 yX6_areBeside wsX6_areBeside) := goodIn_app (goodIn_of _ (by decide +kernel)) ggX6_beside_X6_areBeside
theorem dX6_beside_0 : decode cX6_beside 0 = .ok (.iload_n 0, 1) := by decide +kernel
theorem dX6_beside_1 : decode cX6_beside 1 = .ok (.iload_n 1, 1) := by decide +kernel
theorem dX6_beside_2 : decode cX6_beside 2 = .ok (.ifCond .ne 8, 3) := by decide +kernel
theorem dX6_beside_5 : decode cX6_beside 5 = .ok (.bipush (-6), 2) := by decide +kernel
theorem dX6_beside_7 : decode cX6_beside 7 = .ok (.goto 23, 3) := by decide +kernel
theorem dX6_beside_10 : decode cX6_beside 10 = .ok (.iload_n 1, 1) := by decide +kernel
theorem dX6_beside_11 : decode cX6_beside 11 = .ok (.iconst 1, 1) := by decide +kernel
theorem dX6_beside_12 : decode cX6_beside 12 = .ok (.if_icmp .ne 7, 3) := by decide +kernel
theorem dX6_beside_15 : decode cX6_beside 15 = .ok (.iconst (-1), 1) := by decide +kernel
theorem dX6_beside_16 : decode cX6_beside 16 = .ok (.goto 14, 3) := by decide +kernel
theorem dX6_beside_19 : decode cX6_beside 19 = .ok (.iload_n 1, 1) := by decide +kernel
theorem dX6_beside_20 : decode cX6_beside 20 = .ok (.iconst 2, 1) := by decide +kernel
theorem dX6_beside_21 : decode cX6_beside 21 = .ok (.if_icmp .ne 7, 3) := by decide +kernel
theorem dX6_beside_24 : decode cX6_beside 24 = .ok (.iconst 1, 1) := by decide +kernel
theorem dX6_beside_25 : decode cX6_beside 25 = .ok (.goto 5, 3) := by decide +kernel
theorem dX6_beside_28 : decode cX6_beside 28 = .ok (.bipush 6, 2) := by decide +kernel
theorem dX6_beside_30 : decode cX6_beside 30 = .ok (.iadd, 1) := by decide +kernel
theorem dX6_beside_31 : decode cX6_beside 31 = .ok (.istore_n 2, 1) := by decide +kernel
theorem dX6_beside_32 : decode cX6_beside 32 = .ok (.iload_n 2, 1) := by decide +kernel
theorem dX6_beside_33 : decode cX6_beside 33 = .ok (.invokestatic 57, 3) := by decide +kernel
theorem dX6_beside_36 : decode cX6_beside 36 = .ok (.ifCond .eq 15, 3) := by decide +kernel
theorem dX6_beside_39 : decode cX6_beside 39 = .ok (.iload_n 0, 1) := by decide +kernel
theorem dX6_beside_40 : decode cX6_beside 40 = .ok (.iload_n 2, 1) := by decide +kernel
theorem dX6_beside_41 : decode cX6_beside 41 = .ok (.invokestatic 77, 3) := by decide +kernel
theorem dX6_beside_44 : decode cX6_beside 44 = .ok (.ifCond .eq 7, 3) := by decide +kernel
theorem dX6_beside_47 : decode cX6_beside 47 = .ok (.iload_n 2, 1) := by decide +kernel
theorem dX6_beside_48 : decode cX6_beside 48 = .ok (.goto 5, 3) := by decide +kernel
theorem dX6_beside_51 : decode cX6_beside 51 = .ok (.bipush (-5), 2) := by decide +kernel
theorem dX6_beside_53 : decode cX6_beside 53 = .ok (.ireturn, 1) := by decide +kernel
set_option maxRecDepth 20000 in
theorem ggX6_nextOn_X6_beside : GoodIn wsX6_nextOn wsX6_beside := goodIn_r _ [5, 6, 7, 4, 8, 9, 10, 11, 12, 13, 14] (by decide +kernel) (by decide +kernel)
set_option maxRecDepth 20000 in
theorem gX6_nextOn_X6_beside : GoodIn wsX6_nextOn (va_wsS RX6 70 yX6_beside wsX6_beside) := goodIn_app (goodIn_of _ (by decide +kernel)) ggX6_nextOn_X6_beside
set_option maxRecDepth 20000 in
theorem ggX6_nextOn_X6_cost : GoodIn wsX6_nextOn wsX6_cost := goodIn_r _ [18, 19, 20, 21, 22, 4, 23, 24, 25, 26, 27, 28, 29, 30, 31, 32, 33, 34, 35, 36, 37, 38, 39] (by decide +kernel) (by decide +kernel)
set_option maxRecDepth 20000 in
theorem gX6_nextOn_X6_cost : GoodIn wsX6_nextOn (wsV RX6 73 RX6 yX6_cost wsX6_cost) := goodIn_app (goodIn_of _ (by decide +kernel)) ggX6_nextOn_X6_cost
theorem dX6_nextOn_0 : decode cX6_nextOn 0 = .ok (.iconst 0, 1) := by decide +kernel
theorem dX6_nextOn_1 : decode cX6_nextOn 1 = .ok (.istore_n 3, 1) := by decide +kernel
theorem dX6_nextOn_2 : decode cX6_nextOn 2 = .ok (.iload_n 3, 1) := by decide +kernel
theorem dX6_nextOn_3 : decode cX6_nextOn 3 = .ok (.iconst 4, 1) := by decide +kernel
theorem dX6_nextOn_4 : decode cX6_nextOn 4 = .ok (.if_icmp .ge 51, 3) := by decide +kernel
theorem dX6_nextOn_7 : decode cX6_nextOn 7 = .ok (.iload_n 2, 1) := by decide +kernel
theorem dX6_nextOn_8 : decode cX6_nextOn 8 = .ok (.iload_n 3, 1) := by decide +kernel
theorem dX6_nextOn_9 : decode cX6_nextOn 9 = .ok (.invokestatic 70, 3) := by decide +kernel
theorem dX6_nextOn_12 : decode cX6_nextOn 12 = .ok (.istore 4, 2) := by decide +kernel
theorem dX6_nextOn_14 : decode cX6_nextOn 14 = .ok (.iload 4, 2) := by decide +kernel
theorem dX6_nextOn_16 : decode cX6_nextOn 16 = .ok (.bipush (-5), 2) := by decide +kernel
theorem dX6_nextOn_18 : decode cX6_nextOn 18 = .ok (.if_icmp .eq 31, 3) := by decide +kernel
theorem dX6_nextOn_21 : decode cX6_nextOn 21 = .ok (.aload_n 0, 1) := by decide +kernel
theorem dX6_nextOn_22 : decode cX6_nextOn 22 = .ok (.getfield 29, 3) := by decide +kernel
theorem dX6_nextOn_25 : decode cX6_nextOn 25 = .ok (.iload 4, 2) := by decide +kernel
theorem dX6_nextOn_27 : decode cX6_nextOn 27 = .ok (.iaload, 1) := by decide +kernel
theorem dX6_nextOn_28 : decode cX6_nextOn 28 = .ok (.aload_n 0, 1) := by decide +kernel
theorem dX6_nextOn_29 : decode cX6_nextOn 29 = .ok (.aload_n 1, 1) := by decide +kernel
theorem dX6_nextOn_30 : decode cX6_nextOn 30 = .ok (.iload_n 2, 1) := by decide +kernel
theorem dX6_nextOn_31 : decode cX6_nextOn 31 = .ok (.iload 4, 2) := by decide +kernel
theorem dX6_nextOn_33 : decode cX6_nextOn 33 = .ok (.invokevirtual 73, 3) := by decide +kernel
theorem dX6_nextOn_36 : decode cX6_nextOn 36 = .ok (.iadd, 1) := by decide +kernel
theorem dX6_nextOn_37 : decode cX6_nextOn 37 = .ok (.aload_n 0, 1) := by decide +kernel
theorem dX6_nextOn_38 : decode cX6_nextOn 38 = .ok (.getfield 29, 3) := by decide +kernel
theorem dX6_nextOn_41 : decode cX6_nextOn 41 = .ok (.iload_n 2, 1) := by decide +kernel
theorem dX6_nextOn_42 : decode cX6_nextOn 42 = .ok (.iaload, 1) := by decide +kernel
theorem dX6_nextOn_43 : decode cX6_nextOn 43 = .ok (.if_icmp .ne 6, 3) := by decide +kernel
theorem dX6_nextOn_46 : decode cX6_nextOn 46 = .ok (.iload 4, 2) := by decide +kernel
theorem dX6_nextOn_48 : decode cX6_nextOn 48 = .ok (.ireturn, 1) := by decide +kernel
theorem dX6_nextOn_49 : decode cX6_nextOn 49 = .ok (.iinc 3 1, 3) := by decide +kernel
theorem dX6_nextOn_52 : decode cX6_nextOn 52 = .ok (.goto (-50), 3) := by decide +kernel
theorem dX6_nextOn_55 : decode cX6_nextOn 55 = .ok (.bipush (-5), 2) := by decide +kernel
theorem dX6_nextOn_57 : decode cX6_nextOn 57 = .ok (.ireturn, 1) := by decide +kernel
set_option maxRecDepth 20000 in
theorem ggX6_isLaid_X6_junction : GoodIn wsX6_isLaid wsX6_junction := goodIn_r _ [7] (by decide +kernel) (by decide +kernel)
set_option maxRecDepth 20000 in
theorem gX6_isLaid_X6_junction : GoodIn wsX6_isLaid (va_wsS RX6 81 yX6_junction wsX6_junction) := goodIn_app (goodIn_of _ (by decide +kernel)) ggX6_isLaid_X6_junction
set_option maxRecDepth 20000 in
theorem ggX6_isLaid_X6_reaches : GoodIn wsX6_isLaid wsX6_reaches := goodIn_r _ [11, 1, 2, 12, 13, 6, 14, 15, 16, 17, 18, 19, 20, 21, 22, 23, 24, 25, 26, 27, 3, 28, 29, 30, 35, 36, 37, 38, 39, 40, 41, 42, 43, 44, 45, 46, 47, 48, 49, 50] (by decide +kernel) (by decide +kernel)
set_option maxRecDepth 20000 in
theorem gX6_isLaid_X6_reaches : GoodIn wsX6_isLaid (wsV RX6 85 RX6 yX6_reaches wsX6_reaches) := goodIn_app (goodIn_of _ (by decide +kernel)) ggX6_isLaid_X6_reaches
set_option maxRecDepth 20000 in
theorem ggX6_isLaid_X6_nextOn : GoodIn wsX6_isLaid wsX6_nextOn := goodIn_r _ [34, 1, 12, 13, 6, 14, 15, 16, 17, 18, 19, 20, 21, 22, 23, 24, 25, 26, 27, 3, 2, 28, 29, 30, 35, 36, 37, 38, 39, 40, 41, 42, 43, 44, 45, 46, 47, 48, 49, 50] (by decide +kernel) (by decide +kernel)
set_option maxRecDepth 20000 in
theorem gX6_isLaid_X6_nextOn : GoodIn wsX6_isLaid (wsV RX6 89 RX6 yX6_nextOn wsX6_nextOn) := goodIn_app (goodIn_of _ (by decide +kernel)) ggX6_isLaid_X6_nextOn
set_option maxRecDepth 20000 in
theorem ggX6_isLaid_X6_segment : GoodIn wsX6_isLaid wsX6_segment := goodIn_r _ [30] (by decide +kernel) (by decide +kernel)
set_option maxRecDepth 20000 in
theorem gX6_isLaid_X6_segment : GoodIn wsX6_isLaid (va_wsS RX6 65 yX6_segment wsX6_segment) := goodIn_app (goodIn_of _ (by decide +kernel)) ggX6_isLaid_X6_segment
theorem dX6_isLaid_0 : decode cX6_isLaid 0 = .ok (.iload_n 2, 1) := by decide +kernel
theorem dX6_isLaid_1 : decode cX6_isLaid 1 = .ok (.iconst 3, 1) := by decide +kernel
theorem dX6_isLaid_2 : decode cX6_isLaid 2 = .ok (.idiv, 1) := by decide +kernel
theorem dX6_isLaid_3 : decode cX6_isLaid 3 = .ok (.istore_n 3, 1) := by decide +kernel
theorem dX6_isLaid_4 : decode cX6_isLaid 4 = .ok (.aload_n 1, 1) := by decide +kernel
theorem dX6_isLaid_5 : decode cX6_isLaid 5 = .ok (.bipush 24, 2) := by decide +kernel
theorem dX6_isLaid_7 : decode cX6_isLaid 7 = .ok (.iload_n 2, 1) := by decide +kernel
theorem dX6_isLaid_8 : decode cX6_isLaid 8 = .ok (.iadd, 1) := by decide +kernel
theorem dX6_isLaid_9 : decode cX6_isLaid 9 = .ok (.iaload, 1) := by decide +kernel
theorem dX6_isLaid_10 : decode cX6_isLaid 10 = .ok (.invokestatic 81, 3) := by decide +kernel
theorem dX6_isLaid_13 : decode cX6_isLaid 13 = .ok (.istore 4, 2) := by decide +kernel
theorem dX6_isLaid_15 : decode cX6_isLaid 15 = .ok (.aload_n 0, 1) := by decide +kernel
theorem dX6_isLaid_16 : decode cX6_isLaid 16 = .ok (.aload_n 1, 1) := by decide +kernel
theorem dX6_isLaid_17 : decode cX6_isLaid 17 = .ok (.iload_n 3, 1) := by decide +kernel
theorem dX6_isLaid_18 : decode cX6_isLaid 18 = .ok (.invokevirtual 85, 3) := by decide +kernel
theorem dX6_isLaid_21 : decode cX6_isLaid 21 = .ok (.aload_n 0, 1) := by decide +kernel
theorem dX6_isLaid_22 : decode cX6_isLaid 22 = .ok (.getfield 29, 3) := by decide +kernel
theorem dX6_isLaid_25 : decode cX6_isLaid 25 = .ok (.iload 4, 2) := by decide +kernel
theorem dX6_isLaid_27 : decode cX6_isLaid 27 = .ok (.iaload, 1) := by decide +kernel
theorem dX6_isLaid_28 : decode cX6_isLaid 28 = .ok (.ldc 69, 2) := by decide +kernel
theorem dX6_isLaid_30 : decode cX6_isLaid 30 = .ok (.if_icmp .lt 5, 3) := by decide +kernel
theorem dX6_isLaid_33 : decode cX6_isLaid 33 = .ok (.iconst 0, 1) := by decide +kernel
theorem dX6_isLaid_34 : decode cX6_isLaid 34 = .ok (.ireturn, 1) := by decide +kernel
theorem dX6_isLaid_35 : decode cX6_isLaid 35 = .ok (.iconst 1, 1) := by decide +kernel
theorem dX6_isLaid_36 : decode cX6_isLaid 36 = .ok (.istore 5, 2) := by decide +kernel
theorem dX6_isLaid_38 : decode cX6_isLaid 38 = .ok (.aload_n 1, 1) := by decide +kernel
theorem dX6_isLaid_39 : decode cX6_isLaid 39 = .ok (.sipush 168, 3) := by decide +kernel
theorem dX6_isLaid_42 : decode cX6_isLaid 42 = .ok (.bipush 24, 2) := by decide +kernel
theorem dX6_isLaid_44 : decode cX6_isLaid 44 = .ok (.iload_n 2, 1) := by decide +kernel
theorem dX6_isLaid_45 : decode cX6_isLaid 45 = .ok (.imul, 1) := by decide +kernel
theorem dX6_isLaid_46 : decode cX6_isLaid 46 = .ok (.iadd, 1) := by decide +kernel
theorem dX6_isLaid_47 : decode cX6_isLaid 47 = .ok (.iload 4, 2) := by decide +kernel
theorem dX6_isLaid_49 : decode cX6_isLaid 49 = .ok (.iastore, 1) := by decide +kernel
theorem dX6_isLaid_50 : decode cX6_isLaid 50 = .ok (.iload 4, 2) := by decide +kernel
theorem dX6_isLaid_52 : decode cX6_isLaid 52 = .ok (.iload_n 3, 1) := by decide +kernel
theorem dX6_isLaid_53 : decode cX6_isLaid 53 = .ok (.if_icmp .eq 37, 3) := by decide +kernel
theorem dX6_isLaid_56 : decode cX6_isLaid 56 = .ok (.aload_n 0, 1) := by decide +kernel
theorem dX6_isLaid_57 : decode cX6_isLaid 57 = .ok (.aload_n 1, 1) := by decide +kernel
theorem dX6_isLaid_58 : decode cX6_isLaid 58 = .ok (.iload 4, 2) := by decide +kernel
theorem dX6_isLaid_60 : decode cX6_isLaid 60 = .ok (.invokevirtual 89, 3) := by decide +kernel
theorem dX6_isLaid_63 : decode cX6_isLaid 63 = .ok (.istore 6, 2) := by decide +kernel
theorem dX6_isLaid_65 : decode cX6_isLaid 65 = .ok (.aload_n 1, 1) := by decide +kernel
theorem dX6_isLaid_66 : decode cX6_isLaid 66 = .ok (.sipush 168, 3) := by decide +kernel
theorem dX6_isLaid_69 : decode cX6_isLaid 69 = .ok (.bipush 24, 2) := by decide +kernel
theorem dX6_isLaid_71 : decode cX6_isLaid 71 = .ok (.iload_n 2, 1) := by decide +kernel
theorem dX6_isLaid_72 : decode cX6_isLaid 72 = .ok (.imul, 1) := by decide +kernel
theorem dX6_isLaid_73 : decode cX6_isLaid 73 = .ok (.iadd, 1) := by decide +kernel
theorem dX6_isLaid_74 : decode cX6_isLaid 74 = .ok (.iload 5, 2) := by decide +kernel
theorem dX6_isLaid_76 : decode cX6_isLaid 76 = .ok (.iadd, 1) := by decide +kernel
theorem dX6_isLaid_77 : decode cX6_isLaid 77 = .ok (.iload 6, 2) := by decide +kernel
theorem dX6_isLaid_79 : decode cX6_isLaid 79 = .ok (.iastore, 1) := by decide +kernel
theorem dX6_isLaid_80 : decode cX6_isLaid 80 = .ok (.iinc 5 1, 3) := by decide +kernel
theorem dX6_isLaid_83 : decode cX6_isLaid 83 = .ok (.iload 6, 2) := by decide +kernel
theorem dX6_isLaid_85 : decode cX6_isLaid 85 = .ok (.istore 4, 2) := by decide +kernel
theorem dX6_isLaid_87 : decode cX6_isLaid 87 = .ok (.goto (-37), 3) := by decide +kernel
theorem dX6_isLaid_90 : decode cX6_isLaid 90 = .ok (.aload_n 1, 1) := by decide +kernel
theorem dX6_isLaid_91 : decode cX6_isLaid 91 = .ok (.bipush 96, 2) := by decide +kernel
theorem dX6_isLaid_93 : decode cX6_isLaid 93 = .ok (.iload_n 2, 1) := by decide +kernel
theorem dX6_isLaid_94 : decode cX6_isLaid 94 = .ok (.iadd, 1) := by decide +kernel
theorem dX6_isLaid_95 : decode cX6_isLaid 95 = .ok (.iload 5, 2) := by decide +kernel
theorem dX6_isLaid_97 : decode cX6_isLaid 97 = .ok (.iastore, 1) := by decide +kernel
theorem dX6_isLaid_98 : decode cX6_isLaid 98 = .ok (.iconst 1, 1) := by decide +kernel
theorem dX6_isLaid_99 : decode cX6_isLaid 99 = .ok (.istore 6, 2) := by decide +kernel
theorem dX6_isLaid_101 : decode cX6_isLaid 101 = .ok (.iload 6, 2) := by decide +kernel
theorem dX6_isLaid_103 : decode cX6_isLaid 103 = .ok (.iload 5, 2) := by decide +kernel
theorem dX6_isLaid_105 : decode cX6_isLaid 105 = .ok (.if_icmp .ge 49, 3) := by decide +kernel
theorem dX6_isLaid_108 : decode cX6_isLaid 108 = .ok (.aload_n 0, 1) := by decide +kernel
theorem dX6_isLaid_109 : decode cX6_isLaid 109 = .ok (.getfield 26, 3) := by decide +kernel
theorem dX6_isLaid_112 : decode cX6_isLaid 112 = .ok (.aload_n 1, 1) := by decide +kernel
theorem dX6_isLaid_113 : decode cX6_isLaid 113 = .ok (.sipush 168, 3) := by decide +kernel
theorem dX6_isLaid_116 : decode cX6_isLaid 116 = .ok (.bipush 24, 2) := by decide +kernel
theorem dX6_isLaid_118 : decode cX6_isLaid 118 = .ok (.iload_n 2, 1) := by decide +kernel
theorem dX6_isLaid_119 : decode cX6_isLaid 119 = .ok (.imul, 1) := by decide +kernel
theorem dX6_isLaid_120 : decode cX6_isLaid 120 = .ok (.iadd, 1) := by decide +kernel
theorem dX6_isLaid_121 : decode cX6_isLaid 121 = .ok (.iload 6, 2) := by decide +kernel
theorem dX6_isLaid_123 : decode cX6_isLaid 123 = .ok (.iadd, 1) := by decide +kernel
theorem dX6_isLaid_124 : decode cX6_isLaid 124 = .ok (.iconst 1, 1) := by decide +kernel
theorem dX6_isLaid_125 : decode cX6_isLaid 125 = .ok (.isub, 1) := by decide +kernel
theorem dX6_isLaid_126 : decode cX6_isLaid 126 = .ok (.iaload, 1) := by decide +kernel
theorem dX6_isLaid_127 : decode cX6_isLaid 127 = .ok (.aload_n 1, 1) := by decide +kernel
theorem dX6_isLaid_128 : decode cX6_isLaid 128 = .ok (.sipush 168, 3) := by decide +kernel
theorem dX6_isLaid_131 : decode cX6_isLaid 131 = .ok (.bipush 24, 2) := by decide +kernel
theorem dX6_isLaid_133 : decode cX6_isLaid 133 = .ok (.iload_n 2, 1) := by decide +kernel
theorem dX6_isLaid_134 : decode cX6_isLaid 134 = .ok (.imul, 1) := by decide +kernel
theorem dX6_isLaid_135 : decode cX6_isLaid 135 = .ok (.iadd, 1) := by decide +kernel
theorem dX6_isLaid_136 : decode cX6_isLaid 136 = .ok (.iload 6, 2) := by decide +kernel
theorem dX6_isLaid_138 : decode cX6_isLaid 138 = .ok (.iadd, 1) := by decide +kernel
theorem dX6_isLaid_139 : decode cX6_isLaid 139 = .ok (.iaload, 1) := by decide +kernel
theorem dX6_isLaid_140 : decode cX6_isLaid 140 = .ok (.invokestatic 65, 3) := by decide +kernel
theorem dX6_isLaid_143 : decode cX6_isLaid 143 = .ok (.dup2, 1) := by decide +kernel
theorem dX6_isLaid_144 : decode cX6_isLaid 144 = .ok (.iaload, 1) := by decide +kernel
theorem dX6_isLaid_145 : decode cX6_isLaid 145 = .ok (.iconst 1, 1) := by decide +kernel
theorem dX6_isLaid_146 : decode cX6_isLaid 146 = .ok (.iadd, 1) := by decide +kernel
theorem dX6_isLaid_147 : decode cX6_isLaid 147 = .ok (.iastore, 1) := by decide +kernel
theorem dX6_isLaid_148 : decode cX6_isLaid 148 = .ok (.iinc 6 1, 3) := by decide +kernel
theorem dX6_isLaid_151 : decode cX6_isLaid 151 = .ok (.goto (-50), 3) := by decide +kernel
theorem dX6_isLaid_154 : decode cX6_isLaid 154 = .ok (.iconst 1, 1) := by decide +kernel
theorem dX6_isLaid_155 : decode cX6_isLaid 155 = .ok (.ireturn, 1) := by decide +kernel
theorem dX6_takesWire_0 : decode cX6_takesWire 0 = .ok (.iconst 0, 1) := by decide +kernel
theorem dX6_takesWire_1 : decode cX6_takesWire 1 = .ok (.istore_n 2, 1) := by decide +kernel
theorem dX6_takesWire_2 : decode cX6_takesWire 2 = .ok (.iload_n 2, 1) := by decide +kernel
theorem dX6_takesWire_3 : decode cX6_takesWire 3 = .ok (.bipush 24, 2) := by decide +kernel
theorem dX6_takesWire_5 : decode cX6_takesWire 5 = .ok (.if_icmp .ge 22, 3) := by decide +kernel
theorem dX6_takesWire_8 : decode cX6_takesWire 8 = .ok (.aload_n 0, 1) := by decide +kernel
theorem dX6_takesWire_9 : decode cX6_takesWire 9 = .ok (.sipush 168, 3) := by decide +kernel
theorem dX6_takesWire_12 : decode cX6_takesWire 12 = .ok (.bipush 24, 2) := by decide +kernel
theorem dX6_takesWire_14 : decode cX6_takesWire 14 = .ok (.iload_n 1, 1) := by decide +kernel
theorem dX6_takesWire_15 : decode cX6_takesWire 15 = .ok (.imul, 1) := by decide +kernel
theorem dX6_takesWire_16 : decode cX6_takesWire 16 = .ok (.iadd, 1) := by decide +kernel
theorem dX6_takesWire_17 : decode cX6_takesWire 17 = .ok (.iload_n 2, 1) := by decide +kernel
theorem dX6_takesWire_18 : decode cX6_takesWire 18 = .ok (.iadd, 1) := by decide +kernel
theorem dX6_takesWire_19 : decode cX6_takesWire 19 = .ok (.iconst 0, 1) := by decide +kernel
theorem dX6_takesWire_20 : decode cX6_takesWire 20 = .ok (.iastore, 1) := by decide +kernel
theorem dX6_takesWire_21 : decode cX6_takesWire 21 = .ok (.iinc 2 1, 3) := by decide +kernel
theorem dX6_takesWire_24 : decode cX6_takesWire 24 = .ok (.goto (-22), 3) := by decide +kernel
theorem dX6_takesWire_27 : decode cX6_takesWire 27 = .ok (.aload_n 0, 1) := by decide +kernel
theorem dX6_takesWire_28 : decode cX6_takesWire 28 = .ok (.bipush 96, 2) := by decide +kernel
theorem dX6_takesWire_30 : decode cX6_takesWire 30 = .ok (.iload_n 1, 1) := by decide +kernel
theorem dX6_takesWire_31 : decode cX6_takesWire 31 = .ok (.iadd, 1) := by decide +kernel
theorem dX6_takesWire_32 : decode cX6_takesWire 32 = .ok (.iconst 0, 1) := by decide +kernel
theorem dX6_takesWire_33 : decode cX6_takesWire 33 = .ok (.iastore, 1) := by decide +kernel
theorem dX6_takesWire_34 : decode cX6_takesWire 34 = .ok (.return_, 1) := by decide +kernel
theorem dX6_segments_0 : decode cX6_segments 0 = .ok (.iconst 0, 1) := by decide +kernel
theorem dX6_segments_1 : decode cX6_segments 1 = .ok (.istore_n 1, 1) := by decide +kernel
theorem dX6_segments_2 : decode cX6_segments 2 = .ok (.iconst 0, 1) := by decide +kernel
theorem dX6_segments_3 : decode cX6_segments 3 = .ok (.istore_n 2, 1) := by decide +kernel
theorem dX6_segments_4 : decode cX6_segments 4 = .ok (.iload_n 2, 1) := by decide +kernel
theorem dX6_segments_5 : decode cX6_segments 5 = .ok (.bipush 72, 2) := by decide +kernel
theorem dX6_segments_7 : decode cX6_segments 7 = .ok (.if_icmp .ge 33, 3) := by decide +kernel
theorem dX6_segments_10 : decode cX6_segments 10 = .ok (.iload_n 1, 1) := by decide +kernel
end
section
theorem dX6_segments_11 : decode cX6_segments 11 = .ok (.aload_n 0, 1) := by decide +kernel
theorem dX6_segments_12 : decode cX6_segments 12 = .ok (.bipush 96, 2) := by decide +kernel
theorem dX6_segments_14 : decode cX6_segments 14 = .ok (.iload_n 2, 1) := by decide +kernel
theorem dX6_segments_15 : decode cX6_segments 15 = .ok (.iadd, 1) := by decide +kernel
theorem dX6_segments_16 : decode cX6_segments 16 = .ok (.iaload, 1) := by decide +kernel
theorem dX6_segments_17 : decode cX6_segments 17 = .ok (.ifCond .le 14, 3) := by decide +kernel
theorem dX6_segments_20 : decode cX6_segments 20 = .ok (.aload_n 0, 1) := by decide +kernel
theorem dX6_segments_21 : decode cX6_segments 21 = .ok (.bipush 96, 2) := by decide +kernel
theorem dX6_segments_23 : decode cX6_segments 23 = .ok (.iload_n 2, 1) := by decide +kernel
theorem dX6_segments_24 : decode cX6_segments 24 = .ok (.iadd, 1) := by decide +kernel
theorem dX6_segments_25 : decode cX6_segments 25 = .ok (.iaload, 1) := by decide +kernel
theorem dX6_segments_26 : decode cX6_segments 26 = .ok (.iconst 1, 1) := by decide +kernel
theorem dX6_segments_27 : decode cX6_segments 27 = .ok (.isub, 1) := by decide +kernel
theorem dX6_segments_28 : decode cX6_segments 28 = .ok (.goto 4, 3) := by decide +kernel
theorem dX6_segments_31 : decode cX6_segments 31 = .ok (.iconst 0, 1) := by decide +kernel
theorem dX6_segments_32 : decode cX6_segments 32 = .ok (.iadd, 1) := by decide +kernel
theorem dX6_segments_33 : decode cX6_segments 33 = .ok (.istore_n 1, 1) := by decide +kernel
theorem dX6_segments_34 : decode cX6_segments 34 = .ok (.iinc 2 1, 3) := by decide +kernel
theorem dX6_segments_37 : decode cX6_segments 37 = .ok (.goto (-33), 3) := by decide +kernel
theorem dX6_segments_40 : decode cX6_segments 40 = .ok (.iload_n 1, 1) := by decide +kernel
theorem dX6_segments_41 : decode cX6_segments 41 = .ok (.ireturn, 1) := by decide +kernel
theorem dX6_size_0 : decode cX6_size 0 = .ok (.iload_n 0, 1) := by decide +kernel
theorem dX6_size_1 : decode cX6_size 1 = .ok (.ifCond .ge 8, 3) := by decide +kernel
theorem dX6_size_4 : decode cX6_size 4 = .ok (.iload_n 0, 1) := by decide +kernel
theorem dX6_size_5 : decode cX6_size 5 = .ok (.ineg, 1) := by decide +kernel
theorem dX6_size_6 : decode cX6_size 6 = .ok (.goto 4, 3) := by decide +kernel
theorem dX6_size_9 : decode cX6_size 9 = .ok (.iload_n 0, 1) := by decide +kernel
theorem dX6_size_10 : decode cX6_size 10 = .ok (.ireturn, 1) := by decide +kernel
set_option maxRecDepth 20000 in
theorem ggX6_span_X6_junction : GoodIn wsX6_span wsX6_junction := goodIn_r _ [4] (by decide +kernel) (by decide +kernel)
set_option maxRecDepth 20000 in
theorem gX6_span_X6_junction : GoodIn wsX6_span (va_wsS RX6 81 yX6_junction wsX6_junction) := goodIn_app (goodIn_of _ (by decide +kernel)) ggX6_span_X6_junction
set_option maxRecDepth 20000 in
theorem ggX6_span_X6_size : GoodIn wsX6_span wsX6_size := goodIn_r _ [7] (by decide +kernel) (by decide +kernel)
set_option maxRecDepth 20000 in
theorem gX6_span_X6_size : GoodIn wsX6_span (va_wsS RX6 93 yX6_size wsX6_size) := goodIn_app (goodIn_of _ (by decide +kernel)) ggX6_span_X6_size
theorem dX6_span_0 : decode cX6_span 0 = .ok (.aload_n 0, 1) := by decide +kernel
theorem dX6_span_1 : decode cX6_span 1 = .ok (.bipush 24, 2) := by decide +kernel
theorem dX6_span_3 : decode cX6_span 3 = .ok (.iload_n 1, 1) := by decide +kernel
theorem dX6_span_4 : decode cX6_span 4 = .ok (.iadd, 1) := by decide +kernel
theorem dX6_span_5 : decode cX6_span 5 = .ok (.iaload, 1) := by decide +kernel
theorem dX6_span_6 : decode cX6_span 6 = .ok (.invokestatic 81, 3) := by decide +kernel
theorem dX6_span_9 : decode cX6_span 9 = .ok (.istore_n 2, 1) := by decide +kernel
theorem dX6_span_10 : decode cX6_span 10 = .ok (.iload_n 1, 1) := by decide +kernel
theorem dX6_span_11 : decode cX6_span 11 = .ok (.iconst 3, 1) := by decide +kernel
theorem dX6_span_12 : decode cX6_span 12 = .ok (.idiv, 1) := by decide +kernel
theorem dX6_span_13 : decode cX6_span 13 = .ok (.istore_n 3, 1) := by decide +kernel
theorem dX6_span_14 : decode cX6_span 14 = .ok (.iload_n 2, 1) := by decide +kernel
theorem dX6_span_15 : decode cX6_span 15 = .ok (.bipush 6, 2) := by decide +kernel
theorem dX6_span_17 : decode cX6_span 17 = .ok (.irem, 1) := by decide +kernel
theorem dX6_span_18 : decode cX6_span 18 = .ok (.iload_n 3, 1) := by decide +kernel
theorem dX6_span_19 : decode cX6_span 19 = .ok (.bipush 6, 2) := by decide +kernel
theorem dX6_span_21 : decode cX6_span 21 = .ok (.irem, 1) := by decide +kernel
theorem dX6_span_22 : decode cX6_span 22 = .ok (.isub, 1) := by decide +kernel
theorem dX6_span_23 : decode cX6_span 23 = .ok (.invokestatic 93, 3) := by decide +kernel
theorem dX6_span_26 : decode cX6_span 26 = .ok (.iload_n 2, 1) := by decide +kernel
theorem dX6_span_27 : decode cX6_span 27 = .ok (.bipush 6, 2) := by decide +kernel
theorem dX6_span_29 : decode cX6_span 29 = .ok (.idiv, 1) := by decide +kernel
theorem dX6_span_30 : decode cX6_span 30 = .ok (.iload_n 3, 1) := by decide +kernel
theorem dX6_span_31 : decode cX6_span 31 = .ok (.bipush 6, 2) := by decide +kernel
theorem dX6_span_33 : decode cX6_span 33 = .ok (.idiv, 1) := by decide +kernel
theorem dX6_span_34 : decode cX6_span 34 = .ok (.isub, 1) := by decide +kernel
theorem dX6_span_35 : decode cX6_span 35 = .ok (.invokestatic 93, 3) := by decide +kernel
theorem dX6_span_38 : decode cX6_span 38 = .ok (.iadd, 1) := by decide +kernel
theorem dX6_span_39 : decode cX6_span 39 = .ok (.ireturn, 1) := by decide +kernel
set_option maxRecDepth 20000 in
theorem ggX6_nextWire_X6_isWire : GoodIn wsX6_nextWire wsX6_isWire := goodIn_r _ [5, 6, 7, 4, 8, 9, 10, 11, 12, 13, 14] (by decide +kernel) (by decide +kernel)
set_option maxRecDepth 20000 in
theorem gX6_nextWire_X6_isWire : GoodIn wsX6_nextWire (va_wsS RX6 96 yX6_isWire wsX6_isWire) := goodIn_app (goodIn_of _ (by decide +kernel)) ggX6_nextWire_X6_isWire
set_option maxRecDepth 20000 in
theorem ggX6_nextWire_X6_span : GoodIn wsX6_nextWire wsX6_span := goodIn_r _ [17, 18, 19, 4, 20, 21, 22, 23] (by decide +kernel) (by decide +kernel)
set_option maxRecDepth 20000 in
theorem gX6_nextWire_X6_span : GoodIn wsX6_nextWire (va_wsS RX6 99 yX6_span wsX6_span) := goodIn_app (goodIn_of _ (by decide +kernel)) ggX6_nextWire_X6_span
theorem dX6_nextWire_0 : decode cX6_nextWire 0 = .ok (.bipush (-5), 2) := by decide +kernel
theorem dX6_nextWire_2 : decode cX6_nextWire 2 = .ok (.istore_n 3, 1) := by decide +kernel
theorem dX6_nextWire_3 : decode cX6_nextWire 3 = .ok (.iconst 0, 1) := by decide +kernel
theorem dX6_nextWire_4 : decode cX6_nextWire 4 = .ok (.istore 4, 2) := by decide +kernel
theorem dX6_nextWire_6 : decode cX6_nextWire 6 = .ok (.iload 4, 2) := by decide +kernel
theorem dX6_nextWire_8 : decode cX6_nextWire 8 = .ok (.bipush 72, 2) := by decide +kernel
theorem dX6_nextWire_10 : decode cX6_nextWire 10 = .ok (.if_icmp .ge 87, 3) := by decide +kernel
theorem dX6_nextWire_13 : decode cX6_nextWire 13 = .ok (.aload_n 1, 1) := by decide +kernel
theorem dX6_nextWire_14 : decode cX6_nextWire 14 = .ok (.iload 4, 2) := by decide +kernel
theorem dX6_nextWire_16 : decode cX6_nextWire 16 = .ok (.invokestatic 96, 3) := by decide +kernel
theorem dX6_nextWire_19 : decode cX6_nextWire 19 = .ok (.ifCond .eq 72, 3) := by decide +kernel
theorem dX6_nextWire_22 : decode cX6_nextWire 22 = .ok (.aload_n 0, 1) := by decide +kernel
theorem dX6_nextWire_23 : decode cX6_nextWire 23 = .ok (.getfield 32, 3) := by decide +kernel
theorem dX6_nextWire_26 : decode cX6_nextWire 26 = .ok (.iload 4, 2) := by decide +kernel
theorem dX6_nextWire_28 : decode cX6_nextWire 28 = .ok (.baload, 1) := by decide +kernel
theorem dX6_nextWire_29 : decode cX6_nextWire 29 = .ok (.ifCond .ne 62, 3) := by decide +kernel
theorem dX6_nextWire_32 : decode cX6_nextWire 32 = .ok (.iload_n 3, 1) := by decide +kernel
theorem dX6_nextWire_33 : decode cX6_nextWire 33 = .ok (.bipush (-5), 2) := by decide +kernel
theorem dX6_nextWire_35 : decode cX6_nextWire 35 = .ok (.if_icmp .eq 7, 3) := by decide +kernel
theorem dX6_nextWire_38 : decode cX6_nextWire 38 = .ok (.iload_n 2, 1) := by decide +kernel
theorem dX6_nextWire_39 : decode cX6_nextWire 39 = .ok (.ifCond .ne 7, 3) := by decide +kernel
theorem dX6_nextWire_42 : decode cX6_nextWire 42 = .ok (.iconst 0, 1) := by decide +kernel
theorem dX6_nextWire_43 : decode cX6_nextWire 43 = .ok (.goto 15, 3) := by decide +kernel
theorem dX6_nextWire_46 : decode cX6_nextWire 46 = .ok (.aload_n 1, 1) := by decide +kernel
theorem dX6_nextWire_47 : decode cX6_nextWire 47 = .ok (.iload 4, 2) := by decide +kernel
theorem dX6_nextWire_49 : decode cX6_nextWire 49 = .ok (.invokestatic 99, 3) := by decide +kernel
theorem dX6_nextWire_52 : decode cX6_nextWire 52 = .ok (.aload_n 1, 1) := by decide +kernel
theorem dX6_nextWire_53 : decode cX6_nextWire 53 = .ok (.iload_n 3, 1) := by decide +kernel
theorem dX6_nextWire_54 : decode cX6_nextWire 54 = .ok (.invokestatic 99, 3) := by decide +kernel
theorem dX6_nextWire_57 : decode cX6_nextWire 57 = .ok (.isub, 1) := by decide +kernel
theorem dX6_nextWire_58 : decode cX6_nextWire 58 = .ok (.istore 5, 2) := by decide +kernel
theorem dX6_nextWire_60 : decode cX6_nextWire 60 = .ok (.iload_n 3, 1) := by decide +kernel
theorem dX6_nextWire_61 : decode cX6_nextWire 61 = .ok (.bipush (-5), 2) := by decide +kernel
theorem dX6_nextWire_63 : decode cX6_nextWire 63 = .ok (.if_icmp .eq 21, 3) := by decide +kernel
theorem dX6_nextWire_66 : decode cX6_nextWire 66 = .ok (.iload_n 2, 1) := by decide +kernel
theorem dX6_nextWire_67 : decode cX6_nextWire 67 = .ok (.iconst 1, 1) := by decide +kernel
theorem dX6_nextWire_68 : decode cX6_nextWire 68 = .ok (.if_icmp .ne 11, 3) := by decide +kernel
theorem dX6_nextWire_71 : decode cX6_nextWire 71 = .ok (.iload 5, 2) := by decide +kernel
theorem dX6_nextWire_73 : decode cX6_nextWire 73 = .ok (.ifCond .le 16, 3) := by decide +kernel
theorem dX6_nextWire_76 : decode cX6_nextWire 76 = .ok (.goto 8, 3) := by decide +kernel
theorem dX6_nextWire_79 : decode cX6_nextWire 79 = .ok (.iload 5, 2) := by decide +kernel
theorem dX6_nextWire_81 : decode cX6_nextWire 81 = .ok (.ifCond .ge 8, 3) := by decide +kernel
theorem dX6_nextWire_84 : decode cX6_nextWire 84 = .ok (.iload 4, 2) := by decide +kernel
theorem dX6_nextWire_86 : decode cX6_nextWire 86 = .ok (.goto 4, 3) := by decide +kernel
theorem dX6_nextWire_89 : decode cX6_nextWire 89 = .ok (.iload_n 3, 1) := by decide +kernel
theorem dX6_nextWire_90 : decode cX6_nextWire 90 = .ok (.istore_n 3, 1) := by decide +kernel
theorem dX6_nextWire_91 : decode cX6_nextWire 91 = .ok (.iinc 4 1, 3) := by decide +kernel
theorem dX6_nextWire_94 : decode cX6_nextWire 94 = .ok (.goto (-88), 3) := by decide +kernel
theorem dX6_nextWire_97 : decode cX6_nextWire 97 = .ok (.iload_n 3, 1) := by decide +kernel
theorem dX6_nextWire_98 : decode cX6_nextWire 98 = .ok (.ireturn, 1) := by decide +kernel
set_option maxRecDepth 20000 in
theorem ggX6_laysAll_X6_takesWire : GoodIn wsX6_laysAll wsX6_takesWire := goodIn_r _ [5] (by decide +kernel) (by decide +kernel)
set_option maxRecDepth 20000 in
theorem gX6_laysAll_X6_takesWire : GoodIn wsX6_laysAll (va_wsS RX6 102 yX6_takesWire wsX6_takesWire) := goodIn_app (goodIn_of _ (by decide +kernel)) ggX6_laysAll_X6_takesWire
set_option maxRecDepth 20000 in
theorem ggX6_laysAll_X6_counts : GoodIn wsX6_laysAll wsX6_counts := goodIn_r _ [9, 10, 11, 12, 4, 13, 66, 67, 68, 69, 70, 71, 72, 73, 74, 75, 76, 77, 78, 79, 80, 81] (by decide +kernel) (by decide +kernel)
set_option maxRecDepth 20000 in
theorem gX6_laysAll_X6_counts : GoodIn wsX6_laysAll (wsV RX6 105 RX6 yX6_counts wsX6_counts) := goodIn_app (goodIn_of _ (by decide +kernel)) ggX6_laysAll_X6_counts
set_option maxRecDepth 20000 in
theorem ggX6_laysAll_X6_nextWire : GoodIn wsX6_laysAll wsX6_nextWire := goodIn_r _ [17, 1, 18, 19, 4, 20, 21, 22, 23, 24, 25, 26, 27, 28, 29, 30, 31, 32, 33, 34, 35, 36, 37, 38, 66, 67, 68, 69, 70, 71, 72, 73, 74, 75, 76, 77, 78, 79, 80, 81] (by decide +kernel) (by decide +kernel)
set_option maxRecDepth 20000 in
theorem gX6_laysAll_X6_nextWire : GoodIn wsX6_laysAll (wsV RX6 109 RX6 yX6_nextWire wsX6_nextWire) := goodIn_app (goodIn_of _ (by decide +kernel)) ggX6_laysAll_X6_nextWire
set_option maxRecDepth 20000 in
theorem ggX6_laysAll_X6_isLaid : GoodIn wsX6_laysAll wsX6_isLaid := goodIn_r _ [42, 43, 44, 10, 33, 34, 4, 35, 45, 46, 47, 48, 49, 50, 51, 24, 25, 26, 27, 28, 29, 52, 53, 54, 55, 56, 57, 58, 11, 12, 13, 59, 60, 61, 62, 66, 67, 68, 69, 70, 71, 72, 73, 74, 75, 76, 77, 78, 79, 80, 81] (by decide +kernel) (by decide +kernel)
set_option maxRecDepth 20000 in
theorem gX6_laysAll_X6_isLaid : GoodIn wsX6_laysAll (wsV RX6 112 RX6 yX6_isLaid wsX6_isLaid) := goodIn_app (goodIn_of _ (by decide +kernel)) ggX6_laysAll_X6_isLaid
set_option maxRecDepth 20000 in
theorem ggX6_laysAll_X6_segments : GoodIn wsX6_laysAll wsX6_segments := goodIn_r _ [65] (by decide +kernel) (by decide +kernel)
set_option maxRecDepth 20000 in
theorem gX6_laysAll_X6_segments : GoodIn wsX6_laysAll (va_wsS RX6 115 yX6_segments wsX6_segments) := goodIn_app (goodIn_of _ (by decide +kernel)) ggX6_laysAll_X6_segments
theorem dX6_laysAll_0 : decode cX6_laysAll 0 = .ok (.iconst 0, 1) := by decide +kernel
theorem dX6_laysAll_1 : decode cX6_laysAll 1 = .ok (.istore_n 3, 1) := by decide +kernel
theorem dX6_laysAll_2 : decode cX6_laysAll 2 = .ok (.iload_n 3, 1) := by decide +kernel
theorem dX6_laysAll_3 : decode cX6_laysAll 3 = .ok (.bipush 72, 2) := by decide +kernel
theorem dX6_laysAll_5 : decode cX6_laysAll 5 = .ok (.if_icmp .ge 21, 3) := by decide +kernel
theorem dX6_laysAll_8 : decode cX6_laysAll 8 = .ok (.aload_n 1, 1) := by decide +kernel
theorem dX6_laysAll_9 : decode cX6_laysAll 9 = .ok (.iload_n 3, 1) := by decide +kernel
theorem dX6_laysAll_10 : decode cX6_laysAll 10 = .ok (.invokestatic 102, 3) := by decide +kernel
theorem dX6_laysAll_13 : decode cX6_laysAll 13 = .ok (.aload_n 0, 1) := by decide +kernel
theorem dX6_laysAll_14 : decode cX6_laysAll 14 = .ok (.getfield 32, 3) := by decide +kernel
theorem dX6_laysAll_17 : decode cX6_laysAll 17 = .ok (.iload_n 3, 1) := by decide +kernel
theorem dX6_laysAll_18 : decode cX6_laysAll 18 = .ok (.iconst 0, 1) := by decide +kernel
theorem dX6_laysAll_19 : decode cX6_laysAll 19 = .ok (.bastore, 1) := by decide +kernel
theorem dX6_laysAll_20 : decode cX6_laysAll 20 = .ok (.iinc 3 1, 3) := by decide +kernel
theorem dX6_laysAll_23 : decode cX6_laysAll 23 = .ok (.goto (-21), 3) := by decide +kernel
theorem dX6_laysAll_26 : decode cX6_laysAll 26 = .ok (.aload_n 0, 1) := by decide +kernel
theorem dX6_laysAll_27 : decode cX6_laysAll 27 = .ok (.aload_n 1, 1) := by decide +kernel
theorem dX6_laysAll_28 : decode cX6_laysAll 28 = .ok (.invokevirtual 105, 3) := by decide +kernel
theorem dX6_laysAll_31 : decode cX6_laysAll 31 = .ok (.aload_n 0, 1) := by decide +kernel
theorem dX6_laysAll_32 : decode cX6_laysAll 32 = .ok (.aload_n 1, 1) := by decide +kernel
theorem dX6_laysAll_33 : decode cX6_laysAll 33 = .ok (.iload_n 2, 1) := by decide +kernel
theorem dX6_laysAll_34 : decode cX6_laysAll 34 = .ok (.invokevirtual 109, 3) := by decide +kernel
theorem dX6_laysAll_37 : decode cX6_laysAll 37 = .ok (.istore_n 3, 1) := by decide +kernel
theorem dX6_laysAll_38 : decode cX6_laysAll 38 = .ok (.iload_n 3, 1) := by decide +kernel
theorem dX6_laysAll_39 : decode cX6_laysAll 39 = .ok (.bipush (-5), 2) := by decide +kernel
theorem dX6_laysAll_41 : decode cX6_laysAll 41 = .ok (.if_icmp .eq 32, 3) := by decide +kernel
theorem dX6_laysAll_44 : decode cX6_laysAll 44 = .ok (.aload_n 0, 1) := by decide +kernel
theorem dX6_laysAll_45 : decode cX6_laysAll 45 = .ok (.aload_n 1, 1) := by decide +kernel
theorem dX6_laysAll_46 : decode cX6_laysAll 46 = .ok (.iload_n 3, 1) := by decide +kernel
theorem dX6_laysAll_47 : decode cX6_laysAll 47 = .ok (.invokevirtual 112, 3) := by decide +kernel
theorem dX6_laysAll_50 : decode cX6_laysAll 50 = .ok (.ifCond .ne 6, 3) := by decide +kernel
theorem dX6_laysAll_53 : decode cX6_laysAll 53 = .ok (.bipush (-3), 2) := by decide +kernel
theorem dX6_laysAll_55 : decode cX6_laysAll 55 = .ok (.ireturn, 1) := by decide +kernel
theorem dX6_laysAll_56 : decode cX6_laysAll 56 = .ok (.aload_n 0, 1) := by decide +kernel
theorem dX6_laysAll_57 : decode cX6_laysAll 57 = .ok (.getfield 32, 3) := by decide +kernel
theorem dX6_laysAll_60 : decode cX6_laysAll 60 = .ok (.iload_n 3, 1) := by decide +kernel
theorem dX6_laysAll_61 : decode cX6_laysAll 61 = .ok (.iconst 1, 1) := by decide +kernel
theorem dX6_laysAll_62 : decode cX6_laysAll 62 = .ok (.bastore, 1) := by decide +kernel
theorem dX6_laysAll_63 : decode cX6_laysAll 63 = .ok (.aload_n 0, 1) := by decide +kernel
theorem dX6_laysAll_64 : decode cX6_laysAll 64 = .ok (.aload_n 1, 1) := by decide +kernel
theorem dX6_laysAll_65 : decode cX6_laysAll 65 = .ok (.iload_n 2, 1) := by decide +kernel
theorem dX6_laysAll_66 : decode cX6_laysAll 66 = .ok (.invokevirtual 109, 3) := by decide +kernel
theorem dX6_laysAll_69 : decode cX6_laysAll 69 = .ok (.istore_n 3, 1) := by decide +kernel
theorem dX6_laysAll_70 : decode cX6_laysAll 70 = .ok (.goto (-32), 3) := by decide +kernel
theorem dX6_laysAll_73 : decode cX6_laysAll 73 = .ok (.aload_n 1, 1) := by decide +kernel
theorem dX6_laysAll_74 : decode cX6_laysAll 74 = .ok (.invokestatic 115, 3) := by decide +kernel
theorem dX6_laysAll_77 : decode cX6_laysAll 77 = .ok (.ireturn, 1) := by decide +kernel
set_option maxRecDepth 20000 in
theorem ggX6_put_X6_isPlace : GoodIn wsX6_put wsX6_isPlace := goodIn_r _ [5, 6, 7, 4, 8] (by decide +kernel) (by decide +kernel)
set_option maxRecDepth 20000 in
theorem gX6_put_X6_isPlace : GoodIn wsX6_put (va_wsS RX6 57 yX6_isPlace wsX6_isPlace) := goodIn_app (goodIn_of _ (by decide +kernel)) ggX6_put_X6_isPlace
set_option maxRecDepth 20000 in
theorem ggX6_put_X6_in : GoodIn wsX6_put wsX6_in := goodIn_r _ [8] (by decide +kernel) (by decide +kernel)
set_option maxRecDepth 20000 in
theorem gX6_put_X6_in : GoodIn wsX6_put (va_wsS RX6 53 yX6_in wsX6_in) := goodIn_app (goodIn_of _ (by decide +kernel)) ggX6_put_X6_in
set_option maxRecDepth 20000 in
theorem ggX6_put_X6_isCell : GoodIn wsX6_put wsX6_isCell := goodIn_r _ [11, 2, 3, 4, 5, 6, 7, 8] (by decide +kernel) (by decide +kernel)
set_option maxRecDepth 20000 in
theorem gX6_put_X6_isCell : GoodIn wsX6_put (va_wsS RX6 61 yX6_isCell wsX6_isCell) := goodIn_app (goodIn_of _ (by decide +kernel)) ggX6_put_X6_isCell
set_option maxRecDepth 20000 in
theorem ggX6_put_X6_records : GoodIn wsX6_put wsX6_records := goodIn_r _ [15, 16, 17, 1, 18, 19, 4, 20, 24, 25, 26, 27, 28, 29, 30, 31, 32, 33, 34, 35, 36, 37, 38, 39] (by decide +kernel) (by decide +kernel)
set_option maxRecDepth 20000 in
theorem gX6_put_X6_records : GoodIn wsX6_put (wsV RX6 119 RX6 yX6_records wsX6_records) := goodIn_app (goodIn_of _ (by decide +kernel)) ggX6_put_X6_records
set_option maxRecDepth 20000 in
theorem ggX6_put_X6_cells : GoodIn wsX6_put wsX6_cells := goodIn_r _ [23, 9, 10, 4, 11, 2, 3, 5, 6, 7, 8] (by decide +kernel) (by decide +kernel)
set_option maxRecDepth 20000 in
theorem gX6_put_X6_cells : GoodIn wsX6_put (va_wsS RX6 122 yX6_cells wsX6_cells) := goodIn_app (goodIn_of _ (by decide +kernel)) ggX6_put_X6_cells
theorem dX6_put_0 : decode cX6_put 0 = .ok (.iload_n 1, 1) := by decide +kernel
theorem dX6_put_1 : decode cX6_put 1 = .ok (.invokestatic 57, 3) := by decide +kernel
theorem dX6_put_4 : decode cX6_put 4 = .ok (.ifCond .ne 5, 3) := by decide +kernel
theorem dX6_put_7 : decode cX6_put 7 = .ok (.iconst (-1), 1) := by decide +kernel
theorem dX6_put_8 : decode cX6_put 8 = .ok (.ireturn, 1) := by decide +kernel
theorem dX6_put_9 : decode cX6_put 9 = .ok (.iload_n 2, 1) := by decide +kernel
theorem dX6_put_10 : decode cX6_put 10 = .ok (.iconst 0, 1) := by decide +kernel
theorem dX6_put_11 : decode cX6_put 11 = .ok (.sipush 255, 3) := by decide +kernel
theorem dX6_put_14 : decode cX6_put 14 = .ok (.invokestatic 53, 3) := by decide +kernel
theorem dX6_put_17 : decode cX6_put 17 = .ok (.ifCond .ne 6, 3) := by decide +kernel
theorem dX6_put_20 : decode cX6_put 20 = .ok (.bipush (-2), 2) := by decide +kernel
theorem dX6_put_22 : decode cX6_put 22 = .ok (.ireturn, 1) := by decide +kernel
theorem dX6_put_23 : decode cX6_put 23 = .ok (.aload_n 0, 1) := by decide +kernel
theorem dX6_put_24 : decode cX6_put 24 = .ok (.getfield 7, 3) := by decide +kernel
theorem dX6_put_27 : decode cX6_put 27 = .ok (.iload_n 1, 1) := by decide +kernel
theorem dX6_put_28 : decode cX6_put 28 = .ok (.invokestatic 61, 3) := by decide +kernel
theorem dX6_put_31 : decode cX6_put 31 = .ok (.ifCond .eq 6, 3) := by decide +kernel
theorem dX6_put_34 : decode cX6_put 34 = .ok (.bipush (-4), 2) := by decide +kernel
theorem dX6_put_36 : decode cX6_put 36 = .ok (.ireturn, 1) := by decide +kernel
theorem dX6_put_37 : decode cX6_put 37 = .ok (.aload_n 0, 1) := by decide +kernel
theorem dX6_put_38 : decode cX6_put 38 = .ok (.invokevirtual 119, 3) := by decide +kernel
theorem dX6_put_41 : decode cX6_put 41 = .ok (.aload_n 0, 1) := by decide +kernel
theorem dX6_put_42 : decode cX6_put 42 = .ok (.getfield 7, 3) := by decide +kernel
theorem dX6_put_45 : decode cX6_put 45 = .ok (.iconst 0, 1) := by decide +kernel
theorem dX6_put_46 : decode cX6_put 46 = .ok (.iload_n 1, 1) := by decide +kernel
theorem dX6_put_47 : decode cX6_put 47 = .ok (.iadd, 1) := by decide +kernel
theorem dX6_put_48 : decode cX6_put 48 = .ok (.iload_n 2, 1) := by decide +kernel
theorem dX6_put_49 : decode cX6_put 49 = .ok (.iastore, 1) := by decide +kernel
theorem dX6_put_50 : decode cX6_put 50 = .ok (.aload_n 0, 1) := by decide +kernel
theorem dX6_put_51 : decode cX6_put 51 = .ok (.getfield 7, 3) := by decide +kernel
theorem dX6_put_54 : decode cX6_put 54 = .ok (.invokestatic 122, 3) := by decide +kernel
theorem dX6_put_57 : decode cX6_put 57 = .ok (.ireturn, 1) := by decide +kernel
set_option maxRecDepth 20000 in
theorem ggX6_having_X6_isWire : GoodIn wsX6_having wsX6_isWire := goodIn_r _ [5, 6, 7, 4, 8, 9, 10, 11, 12, 13, 14] (by decide +kernel) (by decide +kernel)
set_option maxRecDepth 20000 in
theorem gX6_having_X6_isWire : GoodIn wsX6_having (va_wsS RX6 96 yX6_isWire wsX6_isWire) := goodIn_app (goodIn_of _ (by decide +kernel)) ggX6_having_X6_isWire
theorem dX6_having_0 : decode cX6_having 0 = .ok (.iconst 0, 1) := by decide +kernel
theorem dX6_having_1 : decode cX6_having 1 = .ok (.istore_n 3, 1) := by decide +kernel
theorem dX6_having_2 : decode cX6_having 2 = .ok (.iconst 0, 1) := by decide +kernel
theorem dX6_having_3 : decode cX6_having 3 = .ok (.istore 4, 2) := by decide +kernel
theorem dX6_having_5 : decode cX6_having 5 = .ok (.iload 4, 2) := by decide +kernel
theorem dX6_having_7 : decode cX6_having 7 = .ok (.bipush 72, 2) := by decide +kernel
theorem dX6_having_9 : decode cX6_having 9 = .ok (.if_icmp .ge 51, 3) := by decide +kernel
theorem dX6_having_12 : decode cX6_having 12 = .ok (.iload_n 3, 1) := by decide +kernel
theorem dX6_having_13 : decode cX6_having 13 = .ok (.aload_n 0, 1) := by decide +kernel
theorem dX6_having_14 : decode cX6_having 14 = .ok (.getfield 7, 3) := by decide +kernel
theorem dX6_having_17 : decode cX6_having 17 = .ok (.iload 4, 2) := by decide +kernel
theorem dX6_having_19 : decode cX6_having 19 = .ok (.invokestatic 96, 3) := by decide +kernel
theorem dX6_having_22 : decode cX6_having 22 = .ok (.ifCond .eq 29, 3) := by decide +kernel
theorem dX6_having_25 : decode cX6_having 25 = .ok (.iload 4, 2) := by decide +kernel
theorem dX6_having_27 : decode cX6_having 27 = .ok (.iconst 3, 1) := by decide +kernel
theorem dX6_having_28 : decode cX6_having 28 = .ok (.idiv, 1) := by decide +kernel
theorem dX6_having_29 : decode cX6_having 29 = .ok (.iload_n 2, 1) := by decide +kernel
theorem dX6_having_30 : decode cX6_having 30 = .ok (.if_icmp .eq 21, 3) := by decide +kernel
theorem dX6_having_33 : decode cX6_having 33 = .ok (.aload_n 0, 1) := by decide +kernel
theorem dX6_having_34 : decode cX6_having 34 = .ok (.getfield 7, 3) := by decide +kernel
theorem dX6_having_37 : decode cX6_having 37 = .ok (.bipush 24, 2) := by decide +kernel
theorem dX6_having_39 : decode cX6_having 39 = .ok (.iload 4, 2) := by decide +kernel
theorem dX6_having_41 : decode cX6_having 41 = .ok (.iadd, 1) := by decide +kernel
theorem dX6_having_42 : decode cX6_having 42 = .ok (.iaload, 1) := by decide +kernel
theorem dX6_having_43 : decode cX6_having 43 = .ok (.iload_n 1, 1) := by decide +kernel
theorem dX6_having_44 : decode cX6_having 44 = .ok (.if_icmp .ne 7, 3) := by decide +kernel
theorem dX6_having_47 : decode cX6_having 47 = .ok (.iconst 1, 1) := by decide +kernel
theorem dX6_having_48 : decode cX6_having 48 = .ok (.goto 4, 3) := by decide +kernel
theorem dX6_having_51 : decode cX6_having 51 = .ok (.iconst 0, 1) := by decide +kernel
theorem dX6_having_52 : decode cX6_having 52 = .ok (.iadd, 1) := by decide +kernel
theorem dX6_having_53 : decode cX6_having 53 = .ok (.istore_n 3, 1) := by decide +kernel
theorem dX6_having_54 : decode cX6_having 54 = .ok (.iinc 4 1, 3) := by decide +kernel
theorem dX6_having_57 : decode cX6_having 57 = .ok (.goto (-52), 3) := by decide +kernel
theorem dX6_having_60 : decode cX6_having 60 = .ok (.iload_n 3, 1) := by decide +kernel
theorem dX6_having_61 : decode cX6_having 61 = .ok (.ireturn, 1) := by decide +kernel
set_option maxRecDepth 20000 in
theorem ggX6_empties_X6_takesWire : GoodIn wsX6_empties wsX6_takesWire := goodIn_r _ [4] (by decide +kernel) (by decide +kernel)
set_option maxRecDepth 20000 in
theorem gX6_empties_X6_takesWire : GoodIn wsX6_empties (va_wsS RX6 102 yX6_takesWire wsX6_takesWire) := goodIn_app (goodIn_of _ (by decide +kernel)) ggX6_empties_X6_takesWire
theorem dX6_empties_0 : decode cX6_empties 0 = .ok (.aload_n 0, 1) := by decide +kernel
theorem dX6_empties_1 : decode cX6_empties 1 = .ok (.iconst 0, 1) := by decide +kernel
theorem dX6_empties_2 : decode cX6_empties 2 = .ok (.iload_n 1, 1) := by decide +kernel
theorem dX6_empties_3 : decode cX6_empties 3 = .ok (.iadd, 1) := by decide +kernel
theorem dX6_empties_4 : decode cX6_empties 4 = .ok (.bipush (-5), 2) := by decide +kernel
theorem dX6_empties_6 : decode cX6_empties 6 = .ok (.iastore, 1) := by decide +kernel
theorem dX6_empties_7 : decode cX6_empties 7 = .ok (.iconst 3, 1) := by decide +kernel
theorem dX6_empties_8 : decode cX6_empties 8 = .ok (.iload_n 1, 1) := by decide +kernel
theorem dX6_empties_9 : decode cX6_empties 9 = .ok (.imul, 1) := by decide +kernel
theorem dX6_empties_10 : decode cX6_empties 10 = .ok (.istore_n 2, 1) := by decide +kernel
theorem dX6_empties_11 : decode cX6_empties 11 = .ok (.iload_n 2, 1) := by decide +kernel
theorem dX6_empties_12 : decode cX6_empties 12 = .ok (.iconst 3, 1) := by decide +kernel
theorem dX6_empties_13 : decode cX6_empties 13 = .ok (.iload_n 1, 1) := by decide +kernel
theorem dX6_empties_14 : decode cX6_empties 14 = .ok (.imul, 1) := by decide +kernel
theorem dX6_empties_15 : decode cX6_empties 15 = .ok (.iconst 3, 1) := by decide +kernel
theorem dX6_empties_16 : decode cX6_empties 16 = .ok (.iadd, 1) := by decide +kernel
theorem dX6_empties_17 : decode cX6_empties 17 = .ok (.if_icmp .ge 22, 3) := by decide +kernel
theorem dX6_empties_20 : decode cX6_empties 20 = .ok (.aload_n 0, 1) := by decide +kernel
theorem dX6_empties_21 : decode cX6_empties 21 = .ok (.bipush 24, 2) := by decide +kernel
theorem dX6_empties_23 : decode cX6_empties 23 = .ok (.iload_n 2, 1) := by decide +kernel
theorem dX6_empties_24 : decode cX6_empties 24 = .ok (.iadd, 1) := by decide +kernel
theorem dX6_empties_25 : decode cX6_empties 25 = .ok (.bipush 32, 2) := by decide +kernel
theorem dX6_empties_27 : decode cX6_empties 27 = .ok (.iastore, 1) := by decide +kernel
theorem dX6_empties_28 : decode cX6_empties 28 = .ok (.aload_n 0, 1) := by decide +kernel
theorem dX6_empties_29 : decode cX6_empties 29 = .ok (.iload_n 2, 1) := by decide +kernel
theorem dX6_empties_30 : decode cX6_empties 30 = .ok (.invokestatic 102, 3) := by decide +kernel
theorem dX6_empties_33 : decode cX6_empties 33 = .ok (.iinc 2 1, 3) := by decide +kernel
theorem dX6_empties_36 : decode cX6_empties 36 = .ok (.goto (-25), 3) := by decide +kernel
theorem dX6_empties_39 : decode cX6_empties 39 = .ok (.return_, 1) := by decide +kernel
set_option maxRecDepth 20000 in
theorem ggX6_take_X6_isCell : GoodIn wsX6_take wsX6_isCell := goodIn_r _ [5, 6, 7, 4, 8, 9, 10, 11] (by decide +kernel) (by decide +kernel)
set_option maxRecDepth 20000 in
theorem gX6_take_X6_isCell : GoodIn wsX6_take (va_wsS RX6 61 yX6_isCell wsX6_isCell) := goodIn_app (goodIn_of _ (by decide +kernel)) ggX6_take_X6_isCell
set_option maxRecDepth 20000 in
theorem ggX6_take_X6_having : GoodIn wsX6_take wsX6_having := goodIn_r _ [15, 1, 16, 17, 4, 18, 2, 3, 5, 6, 7, 8, 9, 10, 11, 37, 38, 39, 40, 41, 42, 43, 44, 45, 46, 47, 48, 49, 50, 51, 52] (by decide +kernel) (by decide +kernel)
set_option maxRecDepth 20000 in
theorem gX6_take_X6_having : GoodIn wsX6_take (wsV RX6 125 RX6 yX6_having wsX6_having) := goodIn_app (goodIn_of _ (by decide +kernel)) ggX6_take_X6_having
set_option maxRecDepth 20000 in
theorem ggX6_take_X6_records : GoodIn wsX6_take wsX6_records := goodIn_r _ [22, 23, 24, 1, 25, 26, 4, 27, 37, 38, 39, 40, 41, 42, 43, 44, 45, 46, 47, 48, 49, 50, 51, 52] (by decide +kernel) (by decide +kernel)
set_option maxRecDepth 20000 in
theorem gX6_take_X6_records : GoodIn wsX6_take (wsV RX6 119 RX6 yX6_records wsX6_records) := goodIn_app (goodIn_of _ (by decide +kernel)) ggX6_take_X6_records
set_option maxRecDepth 20000 in
theorem ggX6_take_X6_empties : GoodIn wsX6_take wsX6_empties := goodIn_r _ [30, 31, 32, 4, 33] (by decide +kernel) (by decide +kernel)
set_option maxRecDepth 20000 in
theorem gX6_take_X6_empties : GoodIn wsX6_take (va_wsS RX6 128 yX6_empties wsX6_empties) := goodIn_app (goodIn_of _ (by decide +kernel)) ggX6_take_X6_empties
set_option maxRecDepth 20000 in
theorem ggX6_take_X6_cells : GoodIn wsX6_take wsX6_cells := goodIn_r _ [36, 2, 3, 4, 5, 6, 7, 8, 9, 10, 11] (by decide +kernel) (by decide +kernel)
set_option maxRecDepth 20000 in
theorem gX6_take_X6_cells : GoodIn wsX6_take (va_wsS RX6 122 yX6_cells wsX6_cells) := goodIn_app (goodIn_of _ (by decide +kernel)) ggX6_take_X6_cells
theorem dX6_take_0 : decode cX6_take 0 = .ok (.aload_n 0, 1) := by decide +kernel
theorem dX6_take_1 : decode cX6_take 1 = .ok (.getfield 7, 3) := by decide +kernel
theorem dX6_take_4 : decode cX6_take 4 = .ok (.iload_n 1, 1) := by decide +kernel
theorem dX6_take_5 : decode cX6_take 5 = .ok (.invokestatic 61, 3) := by decide +kernel
theorem dX6_take_8 : decode cX6_take 8 = .ok (.ifCond .ne 5, 3) := by decide +kernel
theorem dX6_take_11 : decode cX6_take 11 = .ok (.iconst (-1), 1) := by decide +kernel
theorem dX6_take_12 : decode cX6_take 12 = .ok (.ireturn, 1) := by decide +kernel
theorem dX6_take_13 : decode cX6_take 13 = .ok (.aload_n 0, 1) := by decide +kernel
theorem dX6_take_14 : decode cX6_take 14 = .ok (.iload_n 1, 1) := by decide +kernel
theorem dX6_take_15 : decode cX6_take 15 = .ok (.iload_n 1, 1) := by decide +kernel
theorem dX6_take_16 : decode cX6_take 16 = .ok (.invokevirtual 125, 3) := by decide +kernel
theorem dX6_take_19 : decode cX6_take 19 = .ok (.ifCond .le 6, 3) := by decide +kernel
theorem dX6_take_22 : decode cX6_take 22 = .ok (.bipush (-4), 2) := by decide +kernel
theorem dX6_take_24 : decode cX6_take 24 = .ok (.ireturn, 1) := by decide +kernel
theorem dX6_take_25 : decode cX6_take 25 = .ok (.aload_n 0, 1) := by decide +kernel
theorem dX6_take_26 : decode cX6_take 26 = .ok (.invokevirtual 119, 3) := by decide +kernel
theorem dX6_take_29 : decode cX6_take 29 = .ok (.aload_n 0, 1) := by decide +kernel
theorem dX6_take_30 : decode cX6_take 30 = .ok (.getfield 7, 3) := by decide +kernel
theorem dX6_take_33 : decode cX6_take 33 = .ok (.iload_n 1, 1) := by decide +kernel
theorem dX6_take_34 : decode cX6_take 34 = .ok (.invokestatic 128, 3) := by decide +kernel
theorem dX6_take_37 : decode cX6_take 37 = .ok (.aload_n 0, 1) := by decide +kernel
theorem dX6_take_38 : decode cX6_take 38 = .ok (.getfield 7, 3) := by decide +kernel
theorem dX6_take_41 : decode cX6_take 41 = .ok (.invokestatic 122, 3) := by decide +kernel
theorem dX6_take_44 : decode cX6_take 44 = .ok (.ireturn, 1) := by decide +kernel
set_option maxRecDepth 20000 in
theorem ggX6_becomes_X6_records : GoodIn wsX6_becomes wsX6_records := goodIn_r _ [6, 7, 8, 1, 9, 10, 5, 11, 12, 13, 14, 15, 16, 17, 18, 19, 20, 21, 22, 23, 24, 25, 26, 27] (by decide +kernel) (by decide +kernel)
set_option maxRecDepth 20000 in
theorem gX6_becomes_X6_records : GoodIn wsX6_becomes (wsV RX6 119 RX6 yX6_records wsX6_records) := goodIn_app (goodIn_of _ (by decide +kernel)) ggX6_becomes_X6_records
theorem dX6_becomes_0 : decode cX6_becomes 0 = .ok (.aload_n 0, 1) := by decide +kernel
theorem dX6_becomes_1 : decode cX6_becomes 1 = .ok (.getfield 7, 3) := by decide +kernel
theorem dX6_becomes_4 : decode cX6_becomes 4 = .ok (.iload_n 1, 1) := by decide +kernel
theorem dX6_becomes_5 : decode cX6_becomes 5 = .ok (.iaload, 1) := by decide +kernel
theorem dX6_becomes_6 : decode cX6_becomes 6 = .ok (.istore_n 3, 1) := by decide +kernel
theorem dX6_becomes_7 : decode cX6_becomes 7 = .ok (.iload_n 3, 1) := by decide +kernel
theorem dX6_becomes_8 : decode cX6_becomes 8 = .ok (.iload_n 2, 1) := by decide +kernel
theorem dX6_becomes_9 : decode cX6_becomes 9 = .ok (.if_icmp .ne 6, 3) := by decide +kernel
theorem dX6_becomes_12 : decode cX6_becomes 12 = .ok (.bipush (-5), 2) := by decide +kernel
theorem dX6_becomes_14 : decode cX6_becomes 14 = .ok (.ireturn, 1) := by decide +kernel
theorem dX6_becomes_15 : decode cX6_becomes 15 = .ok (.aload_n 0, 1) := by decide +kernel
theorem dX6_becomes_16 : decode cX6_becomes 16 = .ok (.invokevirtual 119, 3) := by decide +kernel
theorem dX6_becomes_19 : decode cX6_becomes 19 = .ok (.aload_n 0, 1) := by decide +kernel
theorem dX6_becomes_20 : decode cX6_becomes 20 = .ok (.getfield 7, 3) := by decide +kernel
theorem dX6_becomes_23 : decode cX6_becomes 23 = .ok (.iload_n 1, 1) := by decide +kernel
theorem dX6_becomes_24 : decode cX6_becomes 24 = .ok (.iload_n 2, 1) := by decide +kernel
theorem dX6_becomes_25 : decode cX6_becomes 25 = .ok (.iastore, 1) := by decide +kernel
theorem dX6_becomes_26 : decode cX6_becomes 26 = .ok (.iload_n 3, 1) := by decide +kernel
theorem dX6_becomes_27 : decode cX6_becomes 27 = .ok (.ireturn, 1) := by decide +kernel
set_option maxRecDepth 20000 in
theorem ggX6_setTable_X6_isCell : GoodIn wsX6_setTable wsX6_isCell := goodIn_r _ [5, 6, 7, 4, 8, 9, 10, 11] (by decide +kernel) (by decide +kernel)
set_option maxRecDepth 20000 in
theorem gX6_setTable_X6_isCell : GoodIn wsX6_setTable (va_wsS RX6 61 yX6_isCell wsX6_isCell) := goodIn_app (goodIn_of _ (by decide +kernel)) ggX6_setTable_X6_isCell
set_option maxRecDepth 20000 in
theorem ggX6_setTable_X6_in : GoodIn wsX6_setTable wsX6_in := goodIn_r _ [11] (by decide +kernel) (by decide +kernel)
set_option maxRecDepth 20000 in
theorem gX6_setTable_X6_in : GoodIn wsX6_setTable (va_wsS RX6 53 yX6_in wsX6_in) := goodIn_app (goodIn_of _ (by decide +kernel)) ggX6_setTable_X6_in
set_option maxRecDepth 20000 in
theorem ggX6_setTable_X6_becomes : GoodIn wsX6_setTable wsX6_becomes := goodIn_r _ [15, 1, 16, 17, 18, 4, 19, 20, 21, 22, 23, 24, 25, 26, 27, 28, 29, 30, 31, 32, 33, 34, 35, 36, 37, 38, 39, 40] (by decide +kernel) (by decide +kernel)
set_option maxRecDepth 20000 in
theorem gX6_setTable_X6_becomes : GoodIn wsX6_setTable (wsV RX6 131 RX6 yX6_becomes wsX6_becomes) := goodIn_app (goodIn_of _ (by decide +kernel)) ggX6_setTable_X6_becomes
theorem dX6_setTable_0 : decode cX6_setTable 0 = .ok (.aload_n 0, 1) := by decide +kernel
theorem dX6_setTable_1 : decode cX6_setTable 1 = .ok (.getfield 7, 3) := by decide +kernel
theorem dX6_setTable_4 : decode cX6_setTable 4 = .ok (.iload_n 1, 1) := by decide +kernel
theorem dX6_setTable_5 : decode cX6_setTable 5 = .ok (.invokestatic 61, 3) := by decide +kernel
theorem dX6_setTable_8 : decode cX6_setTable 8 = .ok (.ifCond .ne 5, 3) := by decide +kernel
theorem dX6_setTable_11 : decode cX6_setTable 11 = .ok (.iconst (-1), 1) := by decide +kernel
theorem dX6_setTable_12 : decode cX6_setTable 12 = .ok (.ireturn, 1) := by decide +kernel
theorem dX6_setTable_13 : decode cX6_setTable 13 = .ok (.iload_n 2, 1) := by decide +kernel
theorem dX6_setTable_14 : decode cX6_setTable 14 = .ok (.iconst 0, 1) := by decide +kernel
theorem dX6_setTable_15 : decode cX6_setTable 15 = .ok (.sipush 255, 3) := by decide +kernel
theorem dX6_setTable_18 : decode cX6_setTable 18 = .ok (.invokestatic 53, 3) := by decide +kernel
theorem dX6_setTable_21 : decode cX6_setTable 21 = .ok (.ifCond .eq 14, 3) := by decide +kernel
theorem dX6_setTable_24 : decode cX6_setTable 24 = .ok (.aload_n 0, 1) := by decide +kernel
theorem dX6_setTable_25 : decode cX6_setTable 25 = .ok (.iconst 0, 1) := by decide +kernel
theorem dX6_setTable_26 : decode cX6_setTable 26 = .ok (.iload_n 1, 1) := by decide +kernel
theorem dX6_setTable_27 : decode cX6_setTable 27 = .ok (.iadd, 1) := by decide +kernel
theorem dX6_setTable_28 : decode cX6_setTable 28 = .ok (.iload_n 2, 1) := by decide +kernel
theorem dX6_setTable_29 : decode cX6_setTable 29 = .ok (.invokevirtual 131, 3) := by decide +kernel
theorem dX6_setTable_32 : decode cX6_setTable 32 = .ok (.goto 5, 3) := by decide +kernel
theorem dX6_setTable_35 : decode cX6_setTable 35 = .ok (.bipush (-2), 2) := by decide +kernel
theorem dX6_setTable_37 : decode cX6_setTable 37 = .ok (.ireturn, 1) := by decide +kernel
set_option maxRecDepth 20000 in
theorem ggX6_isSource_X6_in : GoodIn wsX6_isSource wsX6_in := goodIn_r _ [4] (by decide +kernel) (by decide +kernel)
set_option maxRecDepth 20000 in
theorem gX6_isSource_X6_in : GoodIn wsX6_isSource (va_wsS RX6 53 yX6_in wsX6_in) := goodIn_app (goodIn_of _ (by decide +kernel)) ggX6_isSource_X6_in
set_option maxRecDepth 20000 in
theorem ggX6_isSource_X6_isCell : GoodIn wsX6_isSource wsX6_isCell := goodIn_r _ [7, 8, 9, 3, 10, 1, 2, 4] (by decide +kernel) (by decide +kernel)
set_option maxRecDepth 20000 in
theorem gX6_isSource_X6_isCell : GoodIn wsX6_isSource (va_wsS RX6 61 yX6_isCell wsX6_isCell) := goodIn_app (goodIn_of _ (by decide +kernel)) ggX6_isSource_X6_isCell
theorem dX6_isSource_0 : decode cX6_isSource 0 = .ok (.iload_n 1, 1) := by decide +kernel
theorem dX6_isSource_1 : decode cX6_isSource 1 = .ok (.bipush 24, 2) := by decide +kernel
theorem dX6_isSource_3 : decode cX6_isSource 3 = .ok (.bipush 33, 2) := by decide +kernel
theorem dX6_isSource_5 : decode cX6_isSource 5 = .ok (.invokestatic 53, 3) := by decide +kernel
theorem dX6_isSource_8 : decode cX6_isSource 8 = .ok (.ifCond .ne 11, 3) := by decide +kernel
theorem dX6_isSource_11 : decode cX6_isSource 11 = .ok (.aload_n 0, 1) := by decide +kernel
theorem dX6_isSource_12 : decode cX6_isSource 12 = .ok (.iload_n 1, 1) := by decide +kernel
theorem dX6_isSource_13 : decode cX6_isSource 13 = .ok (.invokestatic 61, 3) := by decide +kernel
theorem dX6_isSource_16 : decode cX6_isSource 16 = .ok (.ifCond .eq 7, 3) := by decide +kernel
theorem dX6_isSource_19 : decode cX6_isSource 19 = .ok (.iconst 1, 1) := by decide +kernel
theorem dX6_isSource_20 : decode cX6_isSource 20 = .ok (.goto 4, 3) := by decide +kernel
theorem dX6_isSource_23 : decode cX6_isSource 23 = .ok (.iconst 0, 1) := by decide +kernel
theorem dX6_isSource_24 : decode cX6_isSource 24 = .ok (.ireturn, 1) := by decide +kernel
set_option maxRecDepth 20000 in
theorem ggX6_connect_X6_isCell : GoodIn wsX6_connect wsX6_isCell := goodIn_r _ [6, 7, 8, 5, 9, 10, 11, 12] (by decide +kernel) (by decide +kernel)
set_option maxRecDepth 20000 in
theorem gX6_connect_X6_isCell : GoodIn wsX6_connect (va_wsS RX6 61 yX6_isCell wsX6_isCell) := goodIn_app (goodIn_of _ (by decide +kernel)) ggX6_connect_X6_isCell
set_option maxRecDepth 20000 in
theorem ggX6_connect_X6_in : GoodIn wsX6_connect wsX6_in := goodIn_r _ [12] (by decide +kernel) (by decide +kernel)
set_option maxRecDepth 20000 in
theorem gX6_connect_X6_in : GoodIn wsX6_connect (va_wsS RX6 53 yX6_in wsX6_in) := goodIn_app (goodIn_of _ (by decide +kernel)) ggX6_connect_X6_in
set_option maxRecDepth 20000 in
theorem ggX6_connect_X6_isSource : GoodIn wsX6_connect wsX6_isSource := goodIn_r _ [15, 10, 11, 5, 12, 3, 4, 6, 7, 8, 9] (by decide +kernel) (by decide +kernel)
set_option maxRecDepth 20000 in
theorem gX6_connect_X6_isSource : GoodIn wsX6_connect (va_wsS RX6 134 yX6_isSource wsX6_isSource) := goodIn_app (goodIn_of _ (by decide +kernel)) ggX6_connect_X6_isSource
set_option maxRecDepth 20000 in
theorem ggX6_connect_X6_lays : GoodIn wsX6_connect wsX6_lays := goodIn_r _ [18] (by decide +kernel) (by decide +kernel)
set_option maxRecDepth 20000 in
theorem gX6_connect_X6_lays : GoodIn wsX6_connect (va_wsS RX6 49 yX6_lays wsX6_lays) := goodIn_app (goodIn_of _ (by decide +kernel)) ggX6_connect_X6_lays
set_option maxRecDepth 20000 in
theorem ggX6_connect_X6_takesWire : GoodIn wsX6_connect wsX6_takesWire := goodIn_r _ [21] (by decide +kernel) (by decide +kernel)
set_option maxRecDepth 20000 in
theorem gX6_connect_X6_takesWire : GoodIn wsX6_connect (va_wsS RX6 102 yX6_takesWire wsX6_takesWire) := goodIn_app (goodIn_of _ (by decide +kernel)) ggX6_connect_X6_takesWire
set_option maxRecDepth 20000 in
theorem ggX6_connect_X6_counts : GoodIn wsX6_connect wsX6_counts := goodIn_r _ [25, 26, 27, 28, 5, 29, 66, 67, 68, 69, 70, 71, 72, 73, 74, 75, 76, 77, 78, 79, 80, 81] (by decide +kernel) (by decide +kernel)
set_option maxRecDepth 20000 in
theorem gX6_connect_X6_counts : GoodIn wsX6_connect (wsV RX6 105 RX6 yX6_counts wsX6_counts) := goodIn_app (goodIn_of _ (by decide +kernel)) ggX6_connect_X6_counts
set_option maxRecDepth 20000 in
theorem ggX6_connect_X6_isWire : GoodIn wsX6_connect wsX6_isWire := goodIn_r _ [32, 3, 4, 5, 6, 7, 8, 9, 10, 11, 12] (by decide +kernel) (by decide +kernel)
set_option maxRecDepth 20000 in
theorem gX6_connect_X6_isWire : GoodIn wsX6_connect (va_wsS RX6 96 yX6_isWire wsX6_isWire) := goodIn_app (goodIn_of _ (by decide +kernel)) ggX6_connect_X6_isWire
set_option maxRecDepth 20000 in
theorem ggX6_connect_X6_isLaid : GoodIn wsX6_connect wsX6_isLaid := goodIn_r _ [36, 37, 38, 26, 39, 40, 5, 41, 42, 43, 44, 45, 46, 47, 48, 7, 8, 9, 10, 11, 12, 49, 50, 51, 52, 53, 54, 55, 27, 28, 29, 56, 57, 58, 59, 66, 67, 68, 69, 70, 71, 72, 73, 74, 75, 76, 77, 78, 79, 80, 81] (by decide +kernel) (by decide +kernel)
set_option maxRecDepth 20000 in
theorem gX6_connect_X6_isLaid : GoodIn wsX6_connect (wsV RX6 112 RX6 yX6_isLaid wsX6_isLaid) := goodIn_app (goodIn_of _ (by decide +kernel)) ggX6_connect_X6_isLaid
set_option maxRecDepth 20000 in
theorem ggX6_connect_X6_records : GoodIn wsX6_connect wsX6_records := goodIn_r _ [63, 64, 65, 1, 16, 17, 5, 18, 66, 67, 68, 69, 70, 71, 72, 73, 74, 75, 76, 77, 78, 79, 80, 81] (by decide +kernel) (by decide +kernel)
set_option maxRecDepth 20000 in
theorem gX6_connect_X6_records : GoodIn wsX6_connect (wsV RX6 119 RX6 yX6_records wsX6_records) := goodIn_app (goodIn_of _ (by decide +kernel)) ggX6_connect_X6_records
theorem dX6_connect_0 : decode cX6_connect 0 = .ok (.aload_n 0, 1) := by decide +kernel
theorem dX6_connect_1 : decode cX6_connect 1 = .ok (.getfield 7, 3) := by decide +kernel
theorem dX6_connect_4 : decode cX6_connect 4 = .ok (.iload_n 1, 1) := by decide +kernel
theorem dX6_connect_5 : decode cX6_connect 5 = .ok (.invokestatic 61, 3) := by decide +kernel
theorem dX6_connect_8 : decode cX6_connect 8 = .ok (.ifCond .eq 23, 3) := by decide +kernel
theorem dX6_connect_11 : decode cX6_connect 11 = .ok (.iload_n 2, 1) := by decide +kernel
theorem dX6_connect_12 : decode cX6_connect 12 = .ok (.iconst 0, 1) := by decide +kernel
theorem dX6_connect_13 : decode cX6_connect 13 = .ok (.iconst 2, 1) := by decide +kernel
theorem dX6_connect_14 : decode cX6_connect 14 = .ok (.invokestatic 53, 3) := by decide +kernel
theorem dX6_connect_17 : decode cX6_connect 17 = .ok (.ifCond .eq 14, 3) := by decide +kernel
theorem dX6_connect_20 : decode cX6_connect 20 = .ok (.aload_n 0, 1) := by decide +kernel
theorem dX6_connect_21 : decode cX6_connect 21 = .ok (.getfield 7, 3) := by decide +kernel
theorem dX6_connect_24 : decode cX6_connect 24 = .ok (.iload_n 3, 1) := by decide +kernel
theorem dX6_connect_25 : decode cX6_connect 25 = .ok (.invokestatic 134, 3) := by decide +kernel
theorem dX6_connect_28 : decode cX6_connect 28 = .ok (.ifCond .ne 5, 3) := by decide +kernel
theorem dX6_connect_31 : decode cX6_connect 31 = .ok (.iconst (-1), 1) := by decide +kernel
theorem dX6_connect_32 : decode cX6_connect 32 = .ok (.ireturn, 1) := by decide +kernel
theorem dX6_connect_33 : decode cX6_connect 33 = .ok (.iconst 3, 1) := by decide +kernel
theorem dX6_connect_34 : decode cX6_connect 34 = .ok (.iload_n 1, 1) := by decide +kernel
theorem dX6_connect_35 : decode cX6_connect 35 = .ok (.imul, 1) := by decide +kernel
theorem dX6_connect_36 : decode cX6_connect 36 = .ok (.iload_n 2, 1) := by decide +kernel
theorem dX6_connect_37 : decode cX6_connect 37 = .ok (.iadd, 1) := by decide +kernel
theorem dX6_connect_38 : decode cX6_connect 38 = .ok (.istore 4, 2) := by decide +kernel
theorem dX6_connect_40 : decode cX6_connect 40 = .ok (.aload_n 0, 1) := by decide +kernel
theorem dX6_connect_41 : decode cX6_connect 41 = .ok (.getfield 7, 3) := by decide +kernel
theorem dX6_connect_44 : decode cX6_connect 44 = .ok (.bipush 24, 2) := by decide +kernel
theorem dX6_connect_46 : decode cX6_connect 46 = .ok (.iload 4, 2) := by decide +kernel
theorem dX6_connect_48 : decode cX6_connect 48 = .ok (.iadd, 1) := by decide +kernel
theorem dX6_connect_49 : decode cX6_connect 49 = .ok (.iaload, 1) := by decide +kernel
theorem dX6_connect_50 : decode cX6_connect 50 = .ok (.iload_n 3, 1) := by decide +kernel
theorem dX6_connect_51 : decode cX6_connect 51 = .ok (.if_icmp .ne 6, 3) := by decide +kernel
theorem dX6_connect_54 : decode cX6_connect 54 = .ok (.bipush (-5), 2) := by decide +kernel
theorem dX6_connect_56 : decode cX6_connect 56 = .ok (.ireturn, 1) := by decide +kernel
theorem dX6_connect_57 : decode cX6_connect 57 = .ok (.aload_n 0, 1) := by decide +kernel
theorem dX6_connect_58 : decode cX6_connect 58 = .ok (.getfield 7, 3) := by decide +kernel
theorem dX6_connect_61 : decode cX6_connect 61 = .ok (.iconst 0, 1) := by decide +kernel
theorem dX6_connect_62 : decode cX6_connect 62 = .ok (.aload_n 0, 1) := by decide +kernel
theorem dX6_connect_63 : decode cX6_connect 63 = .ok (.getfield 13, 3) := by decide +kernel
theorem dX6_connect_66 : decode cX6_connect 66 = .ok (.iconst 0, 1) := by decide +kernel
theorem dX6_connect_67 : decode cX6_connect 67 = .ok (.invokestatic 49, 3) := by decide +kernel
theorem dX6_connect_70 : decode cX6_connect 70 = .ok (.aload_n 0, 1) := by decide +kernel
theorem dX6_connect_71 : decode cX6_connect 71 = .ok (.getfield 13, 3) := by decide +kernel
theorem dX6_connect_74 : decode cX6_connect 74 = .ok (.iload 4, 2) := by decide +kernel
theorem dX6_connect_76 : decode cX6_connect 76 = .ok (.invokestatic 102, 3) := by decide +kernel
theorem dX6_connect_79 : decode cX6_connect 79 = .ok (.aload_n 0, 1) := by decide +kernel
theorem dX6_connect_80 : decode cX6_connect 80 = .ok (.getfield 13, 3) := by decide +kernel
theorem dX6_connect_83 : decode cX6_connect 83 = .ok (.bipush 24, 2) := by decide +kernel
theorem dX6_connect_85 : decode cX6_connect 85 = .ok (.iload 4, 2) := by decide +kernel
theorem dX6_connect_87 : decode cX6_connect 87 = .ok (.iadd, 1) := by decide +kernel
theorem dX6_connect_88 : decode cX6_connect 88 = .ok (.iload_n 3, 1) := by decide +kernel
theorem dX6_connect_89 : decode cX6_connect 89 = .ok (.iastore, 1) := by decide +kernel
theorem dX6_connect_90 : decode cX6_connect 90 = .ok (.aload_n 0, 1) := by decide +kernel
theorem dX6_connect_91 : decode cX6_connect 91 = .ok (.aload_n 0, 1) := by decide +kernel
theorem dX6_connect_92 : decode cX6_connect 92 = .ok (.getfield 13, 3) := by decide +kernel
theorem dX6_connect_95 : decode cX6_connect 95 = .ok (.invokevirtual 105, 3) := by decide +kernel
theorem dX6_connect_98 : decode cX6_connect 98 = .ok (.aload_n 0, 1) := by decide +kernel
theorem dX6_connect_99 : decode cX6_connect 99 = .ok (.getfield 13, 3) := by decide +kernel
theorem dX6_connect_102 : decode cX6_connect 102 = .ok (.iload 4, 2) := by decide +kernel
theorem dX6_connect_104 : decode cX6_connect 104 = .ok (.invokestatic 96, 3) := by decide +kernel
theorem dX6_connect_107 : decode cX6_connect 107 = .ok (.ifCond .eq 19, 3) := by decide +kernel
theorem dX6_connect_110 : decode cX6_connect 110 = .ok (.aload_n 0, 1) := by decide +kernel
theorem dX6_connect_111 : decode cX6_connect 111 = .ok (.aload_n 0, 1) := by decide +kernel
theorem dX6_connect_112 : decode cX6_connect 112 = .ok (.getfield 13, 3) := by decide +kernel
theorem dX6_connect_115 : decode cX6_connect 115 = .ok (.iload 4, 2) := by decide +kernel
theorem dX6_connect_117 : decode cX6_connect 117 = .ok (.invokevirtual 112, 3) := by decide +kernel
theorem dX6_connect_120 : decode cX6_connect 120 = .ok (.ifCond .ne 6, 3) := by decide +kernel
theorem dX6_connect_123 : decode cX6_connect 123 = .ok (.bipush (-3), 2) := by decide +kernel
theorem dX6_connect_125 : decode cX6_connect 125 = .ok (.ireturn, 1) := by decide +kernel
theorem dX6_connect_126 : decode cX6_connect 126 = .ok (.aload_n 0, 1) := by decide +kernel
theorem dX6_connect_127 : decode cX6_connect 127 = .ok (.invokevirtual 119, 3) := by decide +kernel
theorem dX6_connect_130 : decode cX6_connect 130 = .ok (.aload_n 0, 1) := by decide +kernel
theorem dX6_connect_131 : decode cX6_connect 131 = .ok (.getfield 13, 3) := by decide +kernel
theorem dX6_connect_134 : decode cX6_connect 134 = .ok (.iconst 0, 1) := by decide +kernel
theorem dX6_connect_135 : decode cX6_connect 135 = .ok (.aload_n 0, 1) := by decide +kernel
theorem dX6_connect_136 : decode cX6_connect 136 = .ok (.getfield 7, 3) := by decide +kernel
theorem dX6_connect_139 : decode cX6_connect 139 = .ok (.iconst 0, 1) := by decide +kernel
theorem dX6_connect_140 : decode cX6_connect 140 = .ok (.invokestatic 49, 3) := by decide +kernel
theorem dX6_connect_143 : decode cX6_connect 143 = .ok (.aload_n 0, 1) := by decide +kernel
theorem dX6_connect_144 : decode cX6_connect 144 = .ok (.getfield 7, 3) := by decide +kernel
theorem dX6_connect_147 : decode cX6_connect 147 = .ok (.bipush 96, 2) := by decide +kernel
theorem dX6_connect_149 : decode cX6_connect 149 = .ok (.iload 4, 2) := by decide +kernel
theorem dX6_connect_151 : decode cX6_connect 151 = .ok (.iadd, 1) := by decide +kernel
theorem dX6_connect_152 : decode cX6_connect 152 = .ok (.iaload, 1) := by decide +kernel
theorem dX6_connect_153 : decode cX6_connect 153 = .ok (.ifCond .le 18, 3) := by decide +kernel
theorem dX6_connect_156 : decode cX6_connect 156 = .ok (.aload_n 0, 1) := by decide +kernel
theorem dX6_connect_157 : decode cX6_connect 157 = .ok (.getfield 7, 3) := by decide +kernel
theorem dX6_connect_160 : decode cX6_connect 160 = .ok (.bipush 96, 2) := by decide +kernel
theorem dX6_connect_162 : decode cX6_connect 162 = .ok (.iload 4, 2) := by decide +kernel
theorem dX6_connect_164 : decode cX6_connect 164 = .ok (.iadd, 1) := by decide +kernel
theorem dX6_connect_165 : decode cX6_connect 165 = .ok (.iaload, 1) := by decide +kernel
theorem dX6_connect_166 : decode cX6_connect 166 = .ok (.iconst 1, 1) := by decide +kernel
theorem dX6_connect_167 : decode cX6_connect 167 = .ok (.isub, 1) := by decide +kernel
theorem dX6_connect_168 : decode cX6_connect 168 = .ok (.goto 4, 3) := by decide +kernel
theorem dX6_connect_171 : decode cX6_connect 171 = .ok (.iconst 0, 1) := by decide +kernel
theorem dX6_connect_172 : decode cX6_connect 172 = .ok (.ireturn, 1) := by decide +kernel
set_option maxRecDepth 20000 in
theorem ggX6_isChange_X6_isCell : GoodIn wsX6_isChange wsX6_isCell := goodIn_r _ [4, 5, 6, 3, 7, 8, 9, 10] (by decide +kernel) (by decide +kernel)
set_option maxRecDepth 20000 in
theorem gX6_isChange_X6_isCell : GoodIn wsX6_isChange (va_wsS RX6 61 yX6_isCell wsX6_isCell) := goodIn_app (goodIn_of _ (by decide +kernel)) ggX6_isChange_X6_isCell
theorem dX6_isChange_0 : decode cX6_isChange 0 = .ok (.iload_n 1, 1) := by decide +kernel
theorem dX6_isChange_1 : decode cX6_isChange 1 = .ok (.iload_n 2, 1) := by decide +kernel
theorem dX6_isChange_2 : decode cX6_isChange 2 = .ok (.if_icmp .eq 23, 3) := by decide +kernel
theorem dX6_isChange_5 : decode cX6_isChange 5 = .ok (.aload_n 0, 1) := by decide +kernel
theorem dX6_isChange_6 : decode cX6_isChange 6 = .ok (.iload_n 1, 1) := by decide +kernel
theorem dX6_isChange_7 : decode cX6_isChange 7 = .ok (.invokestatic 61, 3) := by decide +kernel
theorem dX6_isChange_10 : decode cX6_isChange 10 = .ok (.ifCond .ne 11, 3) := by decide +kernel
theorem dX6_isChange_13 : decode cX6_isChange 13 = .ok (.aload_n 0, 1) := by decide +kernel
theorem dX6_isChange_14 : decode cX6_isChange 14 = .ok (.iload_n 2, 1) := by decide +kernel
theorem dX6_isChange_15 : decode cX6_isChange 15 = .ok (.invokestatic 61, 3) := by decide +kernel
theorem dX6_isChange_18 : decode cX6_isChange 18 = .ok (.ifCond .eq 7, 3) := by decide +kernel
theorem dX6_isChange_21 : decode cX6_isChange 21 = .ok (.iconst 1, 1) := by decide +kernel
theorem dX6_isChange_22 : decode cX6_isChange 22 = .ok (.goto 4, 3) := by decide +kernel
theorem dX6_isChange_25 : decode cX6_isChange 25 = .ok (.iconst 0, 1) := by decide +kernel
theorem dX6_isChange_26 : decode cX6_isChange 26 = .ok (.ireturn, 1) := by decide +kernel
set_option maxRecDepth 20000 in
theorem ggX6_swapped_X6_lays : GoodIn wsX6_swapped wsX6_lays := goodIn_r _ [6] (by decide +kernel) (by decide +kernel)
set_option maxRecDepth 20000 in
theorem gX6_swapped_X6_lays : GoodIn wsX6_swapped (va_wsS RX6 49 yX6_lays wsX6_lays) := goodIn_app (goodIn_of _ (by decide +kernel)) ggX6_swapped_X6_lays
set_option maxRecDepth 20000 in
theorem ggX6_swapped_X6_laysAll : GoodIn wsX6_swapped wsX6_laysAll := goodIn_r _ [10, 11, 12, 13, 5, 14, 15, 16, 17, 18, 19, 20, 21, 22, 23, 24, 25, 26, 27, 28, 29, 30, 31, 32, 33, 34, 35, 36, 37, 38, 39, 40, 41, 42, 43, 44, 45, 46, 47, 48, 49, 50, 51, 52, 53, 54, 55, 56, 57, 58, 59, 60, 61, 62, 63, 64, 65, 66, 67, 68, 69, 70, 71, 72, 73, 74, 75, 76, 77, 78, 79, 80, 81, 82, 83, 84, 85, 86, 87, 88, 89, 90] (by decide +kernel) (by decide +kernel)
set_option maxRecDepth 20000 in
theorem gX6_swapped_X6_laysAll : GoodIn wsX6_swapped (wsV RX6 137 RX6 yX6_laysAll wsX6_laysAll) := goodIn_app (goodIn_of _ (by decide +kernel)) ggX6_swapped_X6_laysAll
theorem dX6_swapped_0 : decode cX6_swapped 0 = .ok (.aload_n 0, 1) := by decide +kernel
theorem dX6_swapped_1 : decode cX6_swapped 1 = .ok (.getfield 7, 3) := by decide +kernel
theorem dX6_swapped_4 : decode cX6_swapped 4 = .ok (.iconst 0, 1) := by decide +kernel
theorem dX6_swapped_5 : decode cX6_swapped 5 = .ok (.aload_n 0, 1) := by decide +kernel
theorem dX6_swapped_6 : decode cX6_swapped 6 = .ok (.getfield 13, 3) := by decide +kernel
theorem dX6_swapped_9 : decode cX6_swapped 9 = .ok (.iconst 0, 1) := by decide +kernel
theorem dX6_swapped_10 : decode cX6_swapped 10 = .ok (.invokestatic 49, 3) := by decide +kernel
theorem dX6_swapped_13 : decode cX6_swapped 13 = .ok (.aload_n 0, 1) := by decide +kernel
theorem dX6_swapped_14 : decode cX6_swapped 14 = .ok (.getfield 13, 3) := by decide +kernel
theorem dX6_swapped_17 : decode cX6_swapped 17 = .ok (.iconst 0, 1) := by decide +kernel
theorem dX6_swapped_18 : decode cX6_swapped 18 = .ok (.iload_n 1, 1) := by decide +kernel
theorem dX6_swapped_19 : decode cX6_swapped 19 = .ok (.iadd, 1) := by decide +kernel
theorem dX6_swapped_20 : decode cX6_swapped 20 = .ok (.aload_n 0, 1) := by decide +kernel
theorem dX6_swapped_21 : decode cX6_swapped 21 = .ok (.getfield 7, 3) := by decide +kernel
theorem dX6_swapped_24 : decode cX6_swapped 24 = .ok (.iconst 0, 1) := by decide +kernel
theorem dX6_swapped_25 : decode cX6_swapped 25 = .ok (.iload_n 2, 1) := by decide +kernel
theorem dX6_swapped_26 : decode cX6_swapped 26 = .ok (.iadd, 1) := by decide +kernel
theorem dX6_swapped_27 : decode cX6_swapped 27 = .ok (.iaload, 1) := by decide +kernel
theorem dX6_swapped_28 : decode cX6_swapped 28 = .ok (.iastore, 1) := by decide +kernel
theorem dX6_swapped_29 : decode cX6_swapped 29 = .ok (.aload_n 0, 1) := by decide +kernel
theorem dX6_swapped_30 : decode cX6_swapped 30 = .ok (.getfield 13, 3) := by decide +kernel
theorem dX6_swapped_33 : decode cX6_swapped 33 = .ok (.iconst 0, 1) := by decide +kernel
theorem dX6_swapped_34 : decode cX6_swapped 34 = .ok (.iload_n 2, 1) := by decide +kernel
theorem dX6_swapped_35 : decode cX6_swapped 35 = .ok (.iadd, 1) := by decide +kernel
theorem dX6_swapped_36 : decode cX6_swapped 36 = .ok (.aload_n 0, 1) := by decide +kernel
theorem dX6_swapped_37 : decode cX6_swapped 37 = .ok (.getfield 7, 3) := by decide +kernel
theorem dX6_swapped_40 : decode cX6_swapped 40 = .ok (.iconst 0, 1) := by decide +kernel
theorem dX6_swapped_41 : decode cX6_swapped 41 = .ok (.iload_n 1, 1) := by decide +kernel
theorem dX6_swapped_42 : decode cX6_swapped 42 = .ok (.iadd, 1) := by decide +kernel
theorem dX6_swapped_43 : decode cX6_swapped 43 = .ok (.iaload, 1) := by decide +kernel
theorem dX6_swapped_44 : decode cX6_swapped 44 = .ok (.iastore, 1) := by decide +kernel
theorem dX6_swapped_45 : decode cX6_swapped 45 = .ok (.iconst 0, 1) := by decide +kernel
theorem dX6_swapped_46 : decode cX6_swapped 46 = .ok (.istore_n 3, 1) := by decide +kernel
theorem dX6_swapped_47 : decode cX6_swapped 47 = .ok (.iload_n 3, 1) := by decide +kernel
theorem dX6_swapped_48 : decode cX6_swapped 48 = .ok (.iconst 3, 1) := by decide +kernel
theorem dX6_swapped_49 : decode cX6_swapped 49 = .ok (.if_icmp .ge 61, 3) := by decide +kernel
theorem dX6_swapped_52 : decode cX6_swapped 52 = .ok (.aload_n 0, 1) := by decide +kernel
theorem dX6_swapped_53 : decode cX6_swapped 53 = .ok (.getfield 13, 3) := by decide +kernel
theorem dX6_swapped_56 : decode cX6_swapped 56 = .ok (.bipush 24, 2) := by decide +kernel
theorem dX6_swapped_58 : decode cX6_swapped 58 = .ok (.iconst 3, 1) := by decide +kernel
theorem dX6_swapped_59 : decode cX6_swapped 59 = .ok (.iload_n 1, 1) := by decide +kernel
theorem dX6_swapped_60 : decode cX6_swapped 60 = .ok (.imul, 1) := by decide +kernel
theorem dX6_swapped_61 : decode cX6_swapped 61 = .ok (.iadd, 1) := by decide +kernel
theorem dX6_swapped_62 : decode cX6_swapped 62 = .ok (.iload_n 3, 1) := by decide +kernel
theorem dX6_swapped_63 : decode cX6_swapped 63 = .ok (.iadd, 1) := by decide +kernel
theorem dX6_swapped_64 : decode cX6_swapped 64 = .ok (.aload_n 0, 1) := by decide +kernel
theorem dX6_swapped_65 : decode cX6_swapped 65 = .ok (.getfield 7, 3) := by decide +kernel
theorem dX6_swapped_68 : decode cX6_swapped 68 = .ok (.bipush 24, 2) := by decide +kernel
theorem dX6_swapped_70 : decode cX6_swapped 70 = .ok (.iconst 3, 1) := by decide +kernel
theorem dX6_swapped_71 : decode cX6_swapped 71 = .ok (.iload_n 2, 1) := by decide +kernel
theorem dX6_swapped_72 : decode cX6_swapped 72 = .ok (.imul, 1) := by decide +kernel
theorem dX6_swapped_73 : decode cX6_swapped 73 = .ok (.iadd, 1) := by decide +kernel
theorem dX6_swapped_74 : decode cX6_swapped 74 = .ok (.iload_n 3, 1) := by decide +kernel
theorem dX6_swapped_75 : decode cX6_swapped 75 = .ok (.iadd, 1) := by decide +kernel
theorem dX6_swapped_76 : decode cX6_swapped 76 = .ok (.iaload, 1) := by decide +kernel
theorem dX6_swapped_77 : decode cX6_swapped 77 = .ok (.iastore, 1) := by decide +kernel
theorem dX6_swapped_78 : decode cX6_swapped 78 = .ok (.aload_n 0, 1) := by decide +kernel
theorem dX6_swapped_79 : decode cX6_swapped 79 = .ok (.getfield 13, 3) := by decide +kernel
theorem dX6_swapped_82 : decode cX6_swapped 82 = .ok (.bipush 24, 2) := by decide +kernel
theorem dX6_swapped_84 : decode cX6_swapped 84 = .ok (.iconst 3, 1) := by decide +kernel
theorem dX6_swapped_85 : decode cX6_swapped 85 = .ok (.iload_n 2, 1) := by decide +kernel
theorem dX6_swapped_86 : decode cX6_swapped 86 = .ok (.imul, 1) := by decide +kernel
theorem dX6_swapped_87 : decode cX6_swapped 87 = .ok (.iadd, 1) := by decide +kernel
theorem dX6_swapped_88 : decode cX6_swapped 88 = .ok (.iload_n 3, 1) := by decide +kernel
theorem dX6_swapped_89 : decode cX6_swapped 89 = .ok (.iadd, 1) := by decide +kernel
theorem dX6_swapped_90 : decode cX6_swapped 90 = .ok (.aload_n 0, 1) := by decide +kernel
theorem dX6_swapped_91 : decode cX6_swapped 91 = .ok (.getfield 7, 3) := by decide +kernel
theorem dX6_swapped_94 : decode cX6_swapped 94 = .ok (.bipush 24, 2) := by decide +kernel
theorem dX6_swapped_96 : decode cX6_swapped 96 = .ok (.iconst 3, 1) := by decide +kernel
theorem dX6_swapped_97 : decode cX6_swapped 97 = .ok (.iload_n 1, 1) := by decide +kernel
theorem dX6_swapped_98 : decode cX6_swapped 98 = .ok (.imul, 1) := by decide +kernel
theorem dX6_swapped_99 : decode cX6_swapped 99 = .ok (.iadd, 1) := by decide +kernel
theorem dX6_swapped_100 : decode cX6_swapped 100 = .ok (.iload_n 3, 1) := by decide +kernel
theorem dX6_swapped_101 : decode cX6_swapped 101 = .ok (.iadd, 1) := by decide +kernel
theorem dX6_swapped_102 : decode cX6_swapped 102 = .ok (.iaload, 1) := by decide +kernel
theorem dX6_swapped_103 : decode cX6_swapped 103 = .ok (.iastore, 1) := by decide +kernel
theorem dX6_swapped_104 : decode cX6_swapped 104 = .ok (.iinc 3 1, 3) := by decide +kernel
theorem dX6_swapped_107 : decode cX6_swapped 107 = .ok (.goto (-60), 3) := by decide +kernel
theorem dX6_swapped_110 : decode cX6_swapped 110 = .ok (.iconst 0, 1) := by decide +kernel
theorem dX6_swapped_111 : decode cX6_swapped 111 = .ok (.istore_n 3, 1) := by decide +kernel
theorem dX6_swapped_112 : decode cX6_swapped 112 = .ok (.iload_n 3, 1) := by decide +kernel
theorem dX6_swapped_113 : decode cX6_swapped 113 = .ok (.bipush 72, 2) := by decide +kernel
theorem dX6_swapped_115 : decode cX6_swapped 115 = .ok (.if_icmp .ge 51, 3) := by decide +kernel
theorem dX6_swapped_118 : decode cX6_swapped 118 = .ok (.aload_n 0, 1) := by decide +kernel
theorem dX6_swapped_119 : decode cX6_swapped 119 = .ok (.getfield 13, 3) := by decide +kernel
theorem dX6_swapped_122 : decode cX6_swapped 122 = .ok (.bipush 24, 2) := by decide +kernel
theorem dX6_swapped_124 : decode cX6_swapped 124 = .ok (.iload_n 3, 1) := by decide +kernel
theorem dX6_swapped_125 : decode cX6_swapped 125 = .ok (.iadd, 1) := by decide +kernel
theorem dX6_swapped_126 : decode cX6_swapped 126 = .ok (.iaload, 1) := by decide +kernel
theorem dX6_swapped_127 : decode cX6_swapped 127 = .ok (.istore 4, 2) := by decide +kernel
theorem dX6_swapped_129 : decode cX6_swapped 129 = .ok (.aload_n 0, 1) := by decide +kernel
theorem dX6_swapped_130 : decode cX6_swapped 130 = .ok (.getfield 13, 3) := by decide +kernel
theorem dX6_swapped_133 : decode cX6_swapped 133 = .ok (.bipush 24, 2) := by decide +kernel
theorem dX6_swapped_135 : decode cX6_swapped 135 = .ok (.iload_n 3, 1) := by decide +kernel
theorem dX6_swapped_136 : decode cX6_swapped 136 = .ok (.iadd, 1) := by decide +kernel
theorem dX6_swapped_137 : decode cX6_swapped 137 = .ok (.iload 4, 2) := by decide +kernel
theorem dX6_swapped_139 : decode cX6_swapped 139 = .ok (.iload_n 1, 1) := by decide +kernel
theorem dX6_swapped_140 : decode cX6_swapped 140 = .ok (.if_icmp .ne 7, 3) := by decide +kernel
theorem dX6_swapped_143 : decode cX6_swapped 143 = .ok (.iload_n 2, 1) := by decide +kernel
theorem dX6_swapped_144 : decode cX6_swapped 144 = .ok (.goto 15, 3) := by decide +kernel
theorem dX6_swapped_147 : decode cX6_swapped 147 = .ok (.iload 4, 2) := by decide +kernel
theorem dX6_swapped_149 : decode cX6_swapped 149 = .ok (.iload_n 2, 1) := by decide +kernel
theorem dX6_swapped_150 : decode cX6_swapped 150 = .ok (.if_icmp .ne 7, 3) := by decide +kernel
theorem dX6_swapped_153 : decode cX6_swapped 153 = .ok (.iload_n 1, 1) := by decide +kernel
theorem dX6_swapped_154 : decode cX6_swapped 154 = .ok (.goto 5, 3) := by decide +kernel
theorem dX6_swapped_157 : decode cX6_swapped 157 = .ok (.iload 4, 2) := by decide +kernel
theorem dX6_swapped_159 : decode cX6_swapped 159 = .ok (.iastore, 1) := by decide +kernel
theorem dX6_swapped_160 : decode cX6_swapped 160 = .ok (.iinc 3 1, 3) := by decide +kernel
theorem dX6_swapped_163 : decode cX6_swapped 163 = .ok (.goto (-51), 3) := by decide +kernel
theorem dX6_swapped_166 : decode cX6_swapped 166 = .ok (.aload_n 0, 1) := by decide +kernel
theorem dX6_swapped_167 : decode cX6_swapped 167 = .ok (.aload_n 0, 1) := by decide +kernel
theorem dX6_swapped_168 : decode cX6_swapped 168 = .ok (.getfield 13, 3) := by decide +kernel
theorem dX6_swapped_171 : decode cX6_swapped 171 = .ok (.iconst 0, 1) := by decide +kernel
theorem dX6_swapped_172 : decode cX6_swapped 172 = .ok (.invokevirtual 137, 3) := by decide +kernel
theorem dX6_swapped_175 : decode cX6_swapped 175 = .ok (.ireturn, 1) := by decide +kernel
set_option maxRecDepth 20000 in
theorem ggX6_accepts_X6_records : GoodIn wsX6_accepts wsX6_records := goodIn_r _ [7, 8, 9, 2, 10, 11, 6, 12, 13, 14, 15, 16, 17, 18, 19, 20, 21, 22, 23, 24, 25, 26, 27, 28] (by decide +kernel) (by decide +kernel)
set_option maxRecDepth 20000 in
theorem gX6_accepts_X6_records : GoodIn wsX6_accepts (wsV RX6 119 RX6 yX6_records wsX6_records) := goodIn_app (goodIn_of _ (by decide +kernel)) ggX6_accepts_X6_records
set_option maxRecDepth 20000 in
theorem ggX6_accepts_X6_lays : GoodIn wsX6_accepts wsX6_lays := goodIn_r _ [12] (by decide +kernel) (by decide +kernel)
set_option maxRecDepth 20000 in
theorem gX6_accepts_X6_lays : GoodIn wsX6_accepts (va_wsS RX6 49 yX6_lays wsX6_lays) := goodIn_app (goodIn_of _ (by decide +kernel)) ggX6_accepts_X6_lays
theorem dX6_accepts_0 : decode cX6_accepts 0 = .ok (.iload_n 1, 1) := by decide +kernel
theorem dX6_accepts_1 : decode cX6_accepts 1 = .ok (.ifCond .lt 20, 3) := by decide +kernel
theorem dX6_accepts_4 : decode cX6_accepts 4 = .ok (.aload_n 0, 1) := by decide +kernel
theorem dX6_accepts_5 : decode cX6_accepts 5 = .ok (.invokevirtual 119, 3) := by decide +kernel
theorem dX6_accepts_8 : decode cX6_accepts 8 = .ok (.aload_n 0, 1) := by decide +kernel
theorem dX6_accepts_9 : decode cX6_accepts 9 = .ok (.getfield 13, 3) := by decide +kernel
theorem dX6_accepts_12 : decode cX6_accepts 12 = .ok (.iconst 0, 1) := by decide +kernel
theorem dX6_accepts_13 : decode cX6_accepts 13 = .ok (.aload_n 0, 1) := by decide +kernel
theorem dX6_accepts_14 : decode cX6_accepts 14 = .ok (.getfield 7, 3) := by decide +kernel
theorem dX6_accepts_17 : decode cX6_accepts 17 = .ok (.iconst 0, 1) := by decide +kernel
theorem dX6_accepts_18 : decode cX6_accepts 18 = .ok (.invokestatic 49, 3) := by decide +kernel
theorem dX6_accepts_21 : decode cX6_accepts 21 = .ok (.iload_n 1, 1) := by decide +kernel
theorem dX6_accepts_22 : decode cX6_accepts 22 = .ok (.ireturn, 1) := by decide +kernel
set_option maxRecDepth 20000 in
theorem ggX6_swap_X6_isPlace : GoodIn wsX6_swap wsX6_isPlace := goodIn_r _ [5, 6, 7, 4, 8] (by decide +kernel) (by decide +kernel)
set_option maxRecDepth 20000 in
theorem gX6_swap_X6_isPlace : GoodIn wsX6_swap (va_wsS RX6 57 yX6_isPlace wsX6_isPlace) := goodIn_app (goodIn_of _ (by decide +kernel)) ggX6_swap_X6_isPlace
set_option maxRecDepth 20000 in
theorem ggX6_swap_X6_isChange : GoodIn wsX6_swap wsX6_isChange := goodIn_r _ [11, 12, 13, 4, 14, 2, 3, 5, 6, 7, 8] (by decide +kernel) (by decide +kernel)
set_option maxRecDepth 20000 in
theorem gX6_swap_X6_isChange : GoodIn wsX6_swap (va_wsS RX6 140 yX6_isChange wsX6_isChange) := goodIn_app (goodIn_of _ (by decide +kernel)) ggX6_swap_X6_isChange
set_option maxRecDepth 20000 in
theorem ggX6_swap_X6_swapped : GoodIn wsX6_swap wsX6_swapped := goodIn_r _ [18, 1, 19, 20, 21, 4, 22, 23, 24, 25, 26, 27, 28, 29, 30, 31, 32, 33, 34, 35, 36, 37, 38, 39, 40, 41, 42, 43, 44, 45, 12, 13, 14, 2, 3, 5, 6, 7, 8, 46, 47, 48, 49, 50, 51, 52, 53, 54, 55, 56, 57, 58, 59, 60, 61, 62, 63, 64, 65, 66, 67, 68, 69, 70, 71, 72, 73, 74, 75, 76, 77, 78, 79, 80, 81, 92, 93, 94, 95, 96, 97, 98, 99, 100, 101, 102, 103, 104, 105, 106, 107] (by decide +kernel) (by decide +kernel)
set_option maxRecDepth 20000 in
theorem gX6_swap_X6_swapped : GoodIn wsX6_swap (wsV RX6 144 RX6 yX6_swapped wsX6_swapped) := goodIn_app (goodIn_of _ (by decide +kernel)) ggX6_swap_X6_swapped
set_option maxRecDepth 20000 in
theorem ggX6_swap_X6_accepts : GoodIn wsX6_swap wsX6_accepts := goodIn_r _ [85, 19, 1, 86, 87, 88, 4, 89, 90, 91, 20, 21, 22, 92, 93, 94, 95, 96, 97, 98, 99, 100, 101, 102, 103, 104, 105, 106, 107] (by decide +kernel) (by decide +kernel)
set_option maxRecDepth 20000 in
theorem gX6_swap_X6_accepts : GoodIn wsX6_swap (wsV RX6 147 RX6 yX6_accepts wsX6_accepts) := goodIn_app (goodIn_of _ (by decide +kernel)) ggX6_swap_X6_accepts
theorem dX6_swap_0 : decode cX6_swap 0 = .ok (.iload_n 1, 1) := by decide +kernel
theorem dX6_swap_1 : decode cX6_swap 1 = .ok (.invokestatic 57, 3) := by decide +kernel
theorem dX6_swap_4 : decode cX6_swap 4 = .ok (.ifCond .eq 10, 3) := by decide +kernel
theorem dX6_swap_7 : decode cX6_swap 7 = .ok (.iload_n 2, 1) := by decide +kernel
theorem dX6_swap_8 : decode cX6_swap 8 = .ok (.invokestatic 57, 3) := by decide +kernel
theorem dX6_swap_11 : decode cX6_swap 11 = .ok (.ifCond .ne 5, 3) := by decide +kernel
theorem dX6_swap_14 : decode cX6_swap 14 = .ok (.iconst (-1), 1) := by decide +kernel
theorem dX6_swap_15 : decode cX6_swap 15 = .ok (.ireturn, 1) := by decide +kernel
theorem dX6_swap_16 : decode cX6_swap 16 = .ok (.aload_n 0, 1) := by decide +kernel
theorem dX6_swap_17 : decode cX6_swap 17 = .ok (.getfield 7, 3) := by decide +kernel
theorem dX6_swap_20 : decode cX6_swap 20 = .ok (.iload_n 1, 1) := by decide +kernel
theorem dX6_swap_21 : decode cX6_swap 21 = .ok (.iload_n 2, 1) := by decide +kernel
theorem dX6_swap_22 : decode cX6_swap 22 = .ok (.invokestatic 140, 3) := by decide +kernel
theorem dX6_swap_25 : decode cX6_swap 25 = .ok (.ifCond .eq 16, 3) := by decide +kernel
theorem dX6_swap_28 : decode cX6_swap 28 = .ok (.aload_n 0, 1) := by decide +kernel
theorem dX6_swap_29 : decode cX6_swap 29 = .ok (.aload_n 0, 1) := by decide +kernel
theorem dX6_swap_30 : decode cX6_swap 30 = .ok (.iload_n 1, 1) := by decide +kernel
theorem dX6_swap_31 : decode cX6_swap 31 = .ok (.iload_n 2, 1) := by decide +kernel
theorem dX6_swap_32 : decode cX6_swap 32 = .ok (.invokevirtual 144, 3) := by decide +kernel
theorem dX6_swap_35 : decode cX6_swap 35 = .ok (.invokevirtual 147, 3) := by decide +kernel
theorem dX6_swap_38 : decode cX6_swap 38 = .ok (.goto 5, 3) := by decide +kernel
theorem dX6_swap_41 : decode cX6_swap 41 = .ok (.bipush (-5), 2) := by decide +kernel
theorem dX6_swap_43 : decode cX6_swap 43 = .ok (.ireturn, 1) := by decide +kernel
set_option maxRecDepth 20000 in
theorem ggX6_ordered_X6_lays : GoodIn wsX6_ordered wsX6_lays := goodIn_r _ [6] (by decide +kernel) (by decide +kernel)
set_option maxRecDepth 20000 in
theorem gX6_ordered_X6_lays : GoodIn wsX6_ordered (va_wsS RX6 49 yX6_lays wsX6_lays) := goodIn_app (goodIn_of _ (by decide +kernel)) ggX6_ordered_X6_lays
set_option maxRecDepth 20000 in
theorem ggX6_ordered_X6_laysAll : GoodIn wsX6_ordered wsX6_laysAll := goodIn_r _ [10, 11, 12, 13, 5, 14, 15, 16, 17, 18, 19, 20, 21, 22, 23, 24, 25, 26, 27, 28, 29, 30, 31, 32, 33, 34, 35, 36, 37, 38, 39, 40, 41, 42, 43, 44, 45, 46, 47, 48, 49, 50, 51, 52, 53, 54, 55, 56, 57, 58, 59, 60, 61, 62, 63, 64, 65, 66, 67, 68, 69, 70, 71, 72, 73, 74, 75, 76, 77, 78, 79, 80, 81, 82, 83, 84, 85, 86, 87, 88, 89, 90] (by decide +kernel) (by decide +kernel)
set_option maxRecDepth 20000 in
theorem gX6_ordered_X6_laysAll : GoodIn wsX6_ordered (wsV RX6 137 RX6 yX6_laysAll wsX6_laysAll) := goodIn_app (goodIn_of _ (by decide +kernel)) ggX6_ordered_X6_laysAll
theorem dX6_ordered_0 : decode cX6_ordered 0 = .ok (.aload_n 0, 1) := by decide +kernel
theorem dX6_ordered_1 : decode cX6_ordered 1 = .ok (.getfield 7, 3) := by decide +kernel
theorem dX6_ordered_4 : decode cX6_ordered 4 = .ok (.iconst 0, 1) := by decide +kernel
theorem dX6_ordered_5 : decode cX6_ordered 5 = .ok (.aload_n 0, 1) := by decide +kernel
theorem dX6_ordered_6 : decode cX6_ordered 6 = .ok (.getfield 13, 3) := by decide +kernel
theorem dX6_ordered_9 : decode cX6_ordered 9 = .ok (.iconst 0, 1) := by decide +kernel
end
section
theorem dX6_ordered_10 : decode cX6_ordered 10 = .ok (.invokestatic 49, 3) := by decide +kernel
theorem dX6_ordered_13 : decode cX6_ordered 13 = .ok (.aload_n 0, 1) := by decide +kernel
theorem dX6_ordered_14 : decode cX6_ordered 14 = .ok (.aload_n 0, 1) := by decide +kernel
theorem dX6_ordered_15 : decode cX6_ordered 15 = .ok (.getfield 13, 3) := by decide +kernel
theorem dX6_ordered_18 : decode cX6_ordered 18 = .ok (.iload_n 1, 1) := by decide +kernel
theorem dX6_ordered_19 : decode cX6_ordered 19 = .ok (.invokevirtual 137, 3) := by decide +kernel
theorem dX6_ordered_22 : decode cX6_ordered 22 = .ok (.ireturn, 1) := by decide +kernel
set_option maxRecDepth 20000 in
theorem ggX6_layAnew_X6_in : GoodIn wsX6_layAnew wsX6_in := goodIn_r _ [4] (by decide +kernel) (by decide +kernel)
set_option maxRecDepth 20000 in
theorem gX6_layAnew_X6_in : GoodIn wsX6_layAnew (va_wsS RX6 53 yX6_in wsX6_in) := goodIn_app (goodIn_of _ (by decide +kernel)) ggX6_layAnew_X6_in
set_option maxRecDepth 20000 in
theorem ggX6_layAnew_X6_ordered : GoodIn wsX6_layAnew wsX6_ordered := goodIn_r _ [8, 9, 10, 11, 12, 3, 13, 14, 15, 16, 17, 18, 19, 20, 21, 22, 23, 24, 25, 26, 27, 28, 29, 30, 31, 32, 33, 34, 35, 36, 37, 38, 39, 40, 41, 42, 1, 2, 4, 43, 44, 45, 46, 47, 48, 49, 50, 51, 52, 53, 54, 55, 56, 57, 58, 59, 60, 61, 62, 63, 64, 65, 66, 67, 68, 69, 70, 71, 72, 73, 74, 75, 76, 77, 78, 89, 90, 91, 92, 93, 94, 95, 96, 97, 98, 99, 100, 101, 102, 103, 104] (by decide +kernel) (by decide +kernel)
set_option maxRecDepth 20000 in
theorem gX6_layAnew_X6_ordered : GoodIn wsX6_layAnew (wsV RX6 150 RX6 yX6_ordered wsX6_ordered) := goodIn_app (goodIn_of _ (by decide +kernel)) ggX6_layAnew_X6_ordered
set_option maxRecDepth 20000 in
theorem ggX6_layAnew_X6_accepts : GoodIn wsX6_layAnew wsX6_accepts := goodIn_r _ [82, 10, 9, 83, 84, 85, 3, 86, 87, 88, 11, 12, 13, 89, 90, 91, 92, 93, 94, 95, 96, 97, 98, 99, 100, 101, 102, 103, 104] (by decide +kernel) (by decide +kernel)
set_option maxRecDepth 20000 in
theorem gX6_layAnew_X6_accepts : GoodIn wsX6_layAnew (wsV RX6 147 RX6 yX6_accepts wsX6_accepts) := goodIn_app (goodIn_of _ (by decide +kernel)) ggX6_layAnew_X6_accepts
theorem dX6_layAnew_0 : decode cX6_layAnew 0 = .ok (.iload_n 1, 1) := by decide +kernel
theorem dX6_layAnew_1 : decode cX6_layAnew 1 = .ok (.iconst 0, 1) := by decide +kernel
theorem dX6_layAnew_2 : decode cX6_layAnew 2 = .ok (.iconst 2, 1) := by decide +kernel
theorem dX6_layAnew_3 : decode cX6_layAnew 3 = .ok (.invokestatic 53, 3) := by decide +kernel
theorem dX6_layAnew_6 : decode cX6_layAnew 6 = .ok (.ifCond .eq 15, 3) := by decide +kernel
theorem dX6_layAnew_9 : decode cX6_layAnew 9 = .ok (.aload_n 0, 1) := by decide +kernel
theorem dX6_layAnew_10 : decode cX6_layAnew 10 = .ok (.aload_n 0, 1) := by decide +kernel
theorem dX6_layAnew_11 : decode cX6_layAnew 11 = .ok (.iload_n 1, 1) := by decide +kernel
theorem dX6_layAnew_12 : decode cX6_layAnew 12 = .ok (.invokevirtual 150, 3) := by decide +kernel
theorem dX6_layAnew_15 : decode cX6_layAnew 15 = .ok (.invokevirtual 147, 3) := by decide +kernel
theorem dX6_layAnew_18 : decode cX6_layAnew 18 = .ok (.goto 5, 3) := by decide +kernel
theorem dX6_layAnew_21 : decode cX6_layAnew 21 = .ok (.bipush (-2), 2) := by decide +kernel
theorem dX6_layAnew_23 : decode cX6_layAnew 23 = .ok (.ireturn, 1) := by decide +kernel
set_option maxRecDepth 20000 in
theorem ggX6_set_X6_in : GoodIn wsX6_set wsX6_in := goodIn_r _ [5] (by decide +kernel) (by decide +kernel)
set_option maxRecDepth 20000 in
theorem gX6_set_X6_in : GoodIn wsX6_set (va_wsS RX6 53 yX6_in wsX6_in) := goodIn_app (goodIn_of _ (by decide +kernel)) ggX6_set_X6_in
set_option maxRecDepth 20000 in
theorem ggX6_set_X6_counts : GoodIn wsX6_set wsX6_counts := goodIn_r _ [9, 10, 11, 12, 4, 13, 31, 32, 33, 34, 35, 36, 37, 38, 39, 40, 41, 42, 43, 44, 45, 46] (by decide +kernel) (by decide +kernel)
set_option maxRecDepth 20000 in
theorem gX6_set_X6_counts : GoodIn wsX6_set (wsV RX6 105 RX6 yX6_counts wsX6_counts) := goodIn_app (goodIn_of _ (by decide +kernel)) ggX6_set_X6_counts
set_option maxRecDepth 20000 in
theorem ggX6_set_X6_mostHeld : GoodIn wsX6_set wsX6_mostHeld := goodIn_r _ [17, 10, 31, 32, 33, 34, 35, 36, 37, 38, 39, 40, 41, 42, 43, 44, 45, 46] (by decide +kernel) (by decide +kernel)
set_option maxRecDepth 20000 in
theorem gX6_set_X6_mostHeld : GoodIn wsX6_set (wsV RX6 153 RX6 yX6_mostHeld wsX6_mostHeld) := goodIn_app (goodIn_of _ (by decide +kernel)) ggX6_set_X6_mostHeld
set_option maxRecDepth 20000 in
theorem ggX6_set_X6_becomes : GoodIn wsX6_set wsX6_becomes := goodIn_r _ [21, 1, 22, 23, 24, 4, 25, 26, 27, 28, 29, 30, 31, 32, 33, 34, 35, 36, 37, 38, 39, 40, 41, 42, 43, 44, 45, 46] (by decide +kernel) (by decide +kernel)
set_option maxRecDepth 20000 in
theorem gX6_set_X6_becomes : GoodIn wsX6_set (wsV RX6 131 RX6 yX6_becomes wsX6_becomes) := goodIn_app (goodIn_of _ (by decide +kernel)) ggX6_set_X6_becomes
theorem dX6_set_0 : decode cX6_set 0 = .ok (.iload_n 1, 1) := by decide +kernel
theorem dX6_set_1 : decode cX6_set 1 = .ok (.iconst 0, 1) := by decide +kernel
theorem dX6_set_2 : decode cX6_set 2 = .ok (.iconst 1, 1) := by decide +kernel
theorem dX6_set_3 : decode cX6_set 3 = .ok (.invokestatic 53, 3) := by decide +kernel
theorem dX6_set_6 : decode cX6_set 6 = .ok (.ifCond .ne 5, 3) := by decide +kernel
theorem dX6_set_9 : decode cX6_set 9 = .ok (.iconst (-1), 1) := by decide +kernel
theorem dX6_set_10 : decode cX6_set 10 = .ok (.ireturn, 1) := by decide +kernel
theorem dX6_set_11 : decode cX6_set 11 = .ok (.iload_n 2, 1) := by decide +kernel
theorem dX6_set_12 : decode cX6_set 12 = .ok (.iload_n 1, 1) := by decide +kernel
theorem dX6_set_13 : decode cX6_set 13 = .ok (.ifCond .ne 7, 3) := by decide +kernel
theorem dX6_set_16 : decode cX6_set 16 = .ok (.iconst 1, 1) := by decide +kernel
theorem dX6_set_17 : decode cX6_set 17 = .ok (.goto 4, 3) := by decide +kernel
theorem dX6_set_20 : decode cX6_set 20 = .ok (.iconst 0, 1) := by decide +kernel
theorem dX6_set_21 : decode cX6_set 21 = .ok (.iload_n 1, 1) := by decide +kernel
theorem dX6_set_22 : decode cX6_set 22 = .ok (.ifCond .ne 7, 3) := by decide +kernel
theorem dX6_set_25 : decode cX6_set 25 = .ok (.iconst 4, 1) := by decide +kernel
theorem dX6_set_26 : decode cX6_set 26 = .ok (.goto 5, 3) := by decide +kernel
theorem dX6_set_29 : decode cX6_set 29 = .ok (.bipush 9, 2) := by decide +kernel
theorem dX6_set_31 : decode cX6_set 31 = .ok (.invokestatic 53, 3) := by decide +kernel
theorem dX6_set_34 : decode cX6_set 34 = .ok (.ifCond .ne 6, 3) := by decide +kernel
theorem dX6_set_37 : decode cX6_set 37 = .ok (.bipush (-2), 2) := by decide +kernel
theorem dX6_set_39 : decode cX6_set 39 = .ok (.ireturn, 1) := by decide +kernel
theorem dX6_set_40 : decode cX6_set 40 = .ok (.aload_n 0, 1) := by decide +kernel
theorem dX6_set_41 : decode cX6_set 41 = .ok (.aload_n 0, 1) := by decide +kernel
theorem dX6_set_42 : decode cX6_set 42 = .ok (.getfield 7, 3) := by decide +kernel
theorem dX6_set_45 : decode cX6_set 45 = .ok (.invokevirtual 105, 3) := by decide +kernel
theorem dX6_set_48 : decode cX6_set 48 = .ok (.iload_n 1, 1) := by decide +kernel
theorem dX6_set_49 : decode cX6_set 49 = .ok (.ifCond .ne 16, 3) := by decide +kernel
theorem dX6_set_52 : decode cX6_set 52 = .ok (.aload_n 0, 1) := by decide +kernel
theorem dX6_set_53 : decode cX6_set 53 = .ok (.invokevirtual 153, 3) := by decide +kernel
theorem dX6_set_56 : decode cX6_set 56 = .ok (.iload_n 2, 1) := by decide +kernel
theorem dX6_set_57 : decode cX6_set 57 = .ok (.if_icmp .le 8, 3) := by decide +kernel
theorem dX6_set_60 : decode cX6_set 60 = .ok (.bipush (-4), 2) := by decide +kernel
theorem dX6_set_62 : decode cX6_set 62 = .ok (.goto 13, 3) := by decide +kernel
theorem dX6_set_65 : decode cX6_set 65 = .ok (.aload_n 0, 1) := by decide +kernel
theorem dX6_set_66 : decode cX6_set 66 = .ok (.sipush 1896, 3) := by decide +kernel
theorem dX6_set_69 : decode cX6_set 69 = .ok (.iload_n 1, 1) := by decide +kernel
theorem dX6_set_70 : decode cX6_set 70 = .ok (.iadd, 1) := by decide +kernel
theorem dX6_set_71 : decode cX6_set 71 = .ok (.iload_n 2, 1) := by decide +kernel
theorem dX6_set_72 : decode cX6_set 72 = .ok (.invokevirtual 131, 3) := by decide +kernel
theorem dX6_set_75 : decode cX6_set 75 = .ok (.ireturn, 1) := by decide +kernel
theorem dX6_type_0 : decode cX6_type 0 = .ok (.aload_n 0, 1) := by decide +kernel
theorem dX6_type_1 : decode cX6_type 1 = .ok (.getfield 157, 3) := by decide +kernel
theorem dX6_type_4 : decode cX6_type 4 = .ok (.bipush 80, 2) := by decide +kernel
theorem dX6_type_6 : decode cX6_type 6 = .ok (.if_icmp .ne 6, 3) := by decide +kernel
theorem dX6_type_9 : decode cX6_type 9 = .ok (.bipush (-6), 2) := by decide +kernel
theorem dX6_type_11 : decode cX6_type 11 = .ok (.ireturn, 1) := by decide +kernel
theorem dX6_type_12 : decode cX6_type 12 = .ok (.aload_n 0, 1) := by decide +kernel
theorem dX6_type_13 : decode cX6_type 13 = .ok (.getfield 22, 3) := by decide +kernel
theorem dX6_type_16 : decode cX6_type 16 = .ok (.aload_n 0, 1) := by decide +kernel
theorem dX6_type_17 : decode cX6_type 17 = .ok (.getfield 157, 3) := by decide +kernel
theorem dX6_type_20 : decode cX6_type 20 = .ok (.iload_n 1, 1) := by decide +kernel
theorem dX6_type_21 : decode cX6_type 21 = .ok (.castore, 1) := by decide +kernel
theorem dX6_type_22 : decode cX6_type 22 = .ok (.aload_n 0, 1) := by decide +kernel
theorem dX6_type_23 : decode cX6_type 23 = .ok (.dup, 1) := by decide +kernel
theorem dX6_type_24 : decode cX6_type 24 = .ok (.getfield 157, 3) := by decide +kernel
theorem dX6_type_27 : decode cX6_type 27 = .ok (.iconst 1, 1) := by decide +kernel
theorem dX6_type_28 : decode cX6_type 28 = .ok (.iadd, 1) := by decide +kernel
theorem dX6_type_29 : decode cX6_type 29 = .ok (.putfield 157, 3) := by decide +kernel
theorem dX6_type_32 : decode cX6_type 32 = .ok (.aload_n 0, 1) := by decide +kernel
theorem dX6_type_33 : decode cX6_type 33 = .ok (.getfield 157, 3) := by decide +kernel
theorem dX6_type_36 : decode cX6_type 36 = .ok (.ireturn, 1) := by decide +kernel
theorem dX6_clearText_0 : decode cX6_clearText 0 = .ok (.aload_n 0, 1) := by decide +kernel
theorem dX6_clearText_1 : decode cX6_clearText 1 = .ok (.getfield 157, 3) := by decide +kernel
theorem dX6_clearText_4 : decode cX6_clearText 4 = .ok (.istore_n 1, 1) := by decide +kernel
theorem dX6_clearText_5 : decode cX6_clearText 5 = .ok (.aload_n 0, 1) := by decide +kernel
theorem dX6_clearText_6 : decode cX6_clearText 6 = .ok (.iconst 0, 1) := by decide +kernel
theorem dX6_clearText_7 : decode cX6_clearText 7 = .ok (.putfield 157, 3) := by decide +kernel
theorem dX6_clearText_10 : decode cX6_clearText 10 = .ok (.iload_n 1, 1) := by decide +kernel
theorem dX6_clearText_11 : decode cX6_clearText 11 = .ok (.ireturn, 1) := by decide +kernel
set_option maxRecDepth 20000 in
theorem ggX6_sees_X6_in : GoodIn wsX6_sees wsX6_in := goodIn_r _ [7] (by decide +kernel) (by decide +kernel)
set_option maxRecDepth 20000 in
theorem gX6_sees_X6_in : GoodIn wsX6_sees (va_wsS RX6 53 yX6_in wsX6_in) := goodIn_app (goodIn_of _ (by decide +kernel)) ggX6_sees_X6_in
theorem dX6_sees_0 : decode cX6_sees 0 = .ok (.aload_n 0, 1) := by decide +kernel
theorem dX6_sees_1 : decode cX6_sees 1 = .ok (.getfield 160, 3) := by decide +kernel
theorem dX6_sees_4 : decode cX6_sees 4 = .ok (.aload_n 0, 1) := by decide +kernel
theorem dX6_sees_5 : decode cX6_sees 5 = .ok (.getfield 157, 3) := by decide +kernel
theorem dX6_sees_8 : decode cX6_sees 8 = .ok (.if_icmp .ge 24, 3) := by decide +kernel
theorem dX6_sees_11 : decode cX6_sees 11 = .ok (.aload_n 0, 1) := by decide +kernel
theorem dX6_sees_12 : decode cX6_sees 12 = .ok (.getfield 22, 3) := by decide +kernel
theorem dX6_sees_15 : decode cX6_sees 15 = .ok (.aload_n 0, 1) := by decide +kernel
theorem dX6_sees_16 : decode cX6_sees 16 = .ok (.getfield 160, 3) := by decide +kernel
theorem dX6_sees_19 : decode cX6_sees 19 = .ok (.caload, 1) := by decide +kernel
theorem dX6_sees_20 : decode cX6_sees 20 = .ok (.iload_n 1, 1) := by decide +kernel
theorem dX6_sees_21 : decode cX6_sees 21 = .ok (.iload_n 2, 1) := by decide +kernel
theorem dX6_sees_22 : decode cX6_sees 22 = .ok (.invokestatic 53, 3) := by decide +kernel
theorem dX6_sees_25 : decode cX6_sees 25 = .ok (.ifCond .eq 7, 3) := by decide +kernel
theorem dX6_sees_28 : decode cX6_sees 28 = .ok (.iconst 1, 1) := by decide +kernel
theorem dX6_sees_29 : decode cX6_sees 29 = .ok (.goto 4, 3) := by decide +kernel
theorem dX6_sees_32 : decode cX6_sees 32 = .ok (.iconst 0, 1) := by decide +kernel
theorem dX6_sees_33 : decode cX6_sees 33 = .ok (.ireturn, 1) := by decide +kernel
set_option maxRecDepth 20000 in
theorem ggX6_takes_X6_sees : GoodIn wsX6_takes wsX6_sees := goodIn_r _ [6, 1, 7, 8, 9, 10, 5, 11, 12, 13, 14, 15, 16, 17, 18, 19, 20, 21, 22, 23, 24, 25, 26, 27] (by decide +kernel) (by decide +kernel)
set_option maxRecDepth 20000 in
theorem gX6_takes_X6_sees : GoodIn wsX6_takes (wsV RX6 163 RX6 yX6_sees wsX6_sees) := goodIn_app (goodIn_of _ (by decide +kernel)) ggX6_takes_X6_sees
theorem dX6_takes_0 : decode cX6_takes 0 = .ok (.aload_n 0, 1) := by decide +kernel
theorem dX6_takes_1 : decode cX6_takes 1 = .ok (.iload_n 1, 1) := by decide +kernel
theorem dX6_takes_2 : decode cX6_takes 2 = .ok (.iload_n 1, 1) := by decide +kernel
theorem dX6_takes_3 : decode cX6_takes 3 = .ok (.invokevirtual 163, 3) := by decide +kernel
theorem dX6_takes_6 : decode cX6_takes 6 = .ok (.istore_n 2, 1) := by decide +kernel
theorem dX6_takes_7 : decode cX6_takes 7 = .ok (.aload_n 0, 1) := by decide +kernel
theorem dX6_takes_8 : decode cX6_takes 8 = .ok (.dup, 1) := by decide +kernel
theorem dX6_takes_9 : decode cX6_takes 9 = .ok (.getfield 160, 3) := by decide +kernel
theorem dX6_takes_12 : decode cX6_takes 12 = .ok (.iload_n 2, 1) := by decide +kernel
theorem dX6_takes_13 : decode cX6_takes 13 = .ok (.ifCond .eq 7, 3) := by decide +kernel
theorem dX6_takes_16 : decode cX6_takes 16 = .ok (.iconst 1, 1) := by decide +kernel
theorem dX6_takes_17 : decode cX6_takes 17 = .ok (.goto 4, 3) := by decide +kernel
theorem dX6_takes_20 : decode cX6_takes 20 = .ok (.iconst 0, 1) := by decide +kernel
theorem dX6_takes_21 : decode cX6_takes 21 = .ok (.iadd, 1) := by decide +kernel
theorem dX6_takes_22 : decode cX6_takes 22 = .ok (.putfield 160, 3) := by decide +kernel
theorem dX6_takes_25 : decode cX6_takes 25 = .ok (.iload_n 2, 1) := by decide +kernel
theorem dX6_takes_26 : decode cX6_takes 26 = .ok (.ireturn, 1) := by decide +kernel
set_option maxRecDepth 20000 in
theorem ggX6_isNumber_X6_sees : GoodIn wsX6_isNumber wsX6_sees := goodIn_r _ [8, 2, 9, 1, 10, 11, 7, 12, 13, 14, 15, 16, 17, 18, 19, 20, 21, 22, 23, 24, 25, 26, 27, 28] (by decide +kernel) (by decide +kernel)
set_option maxRecDepth 20000 in
theorem gX6_isNumber_X6_sees : GoodIn wsX6_isNumber (wsV RX6 163 RX6 yX6_sees wsX6_sees) := goodIn_app (goodIn_of _ (by decide +kernel)) ggX6_isNumber_X6_sees
theorem dX6_isNumber_0 : decode cX6_isNumber 0 = .ok (.aload_n 0, 1) := by decide +kernel
theorem dX6_isNumber_1 : decode cX6_isNumber 1 = .ok (.bipush 48, 2) := by decide +kernel
theorem dX6_isNumber_3 : decode cX6_isNumber 3 = .ok (.iload_n 1, 1) := by decide +kernel
theorem dX6_isNumber_4 : decode cX6_isNumber 4 = .ok (.bipush 9, 2) := by decide +kernel
theorem dX6_isNumber_6 : decode cX6_isNumber 6 = .ok (.if_icmp .ge 10, 3) := by decide +kernel
theorem dX6_isNumber_9 : decode cX6_isNumber 9 = .ok (.bipush 48, 2) := by decide +kernel
theorem dX6_isNumber_11 : decode cX6_isNumber 11 = .ok (.iload_n 1, 1) := by decide +kernel
theorem dX6_isNumber_12 : decode cX6_isNumber 12 = .ok (.iadd, 1) := by decide +kernel
theorem dX6_isNumber_13 : decode cX6_isNumber 13 = .ok (.goto 5, 3) := by decide +kernel
theorem dX6_isNumber_16 : decode cX6_isNumber 16 = .ok (.bipush 57, 2) := by decide +kernel
theorem dX6_isNumber_18 : decode cX6_isNumber 18 = .ok (.invokevirtual 163, 3) := by decide +kernel
theorem dX6_isNumber_21 : decode cX6_isNumber 21 = .ok (.ifCond .ne 5, 3) := by decide +kernel
theorem dX6_isNumber_24 : decode cX6_isNumber 24 = .ok (.iconst 0, 1) := by decide +kernel
theorem dX6_isNumber_25 : decode cX6_isNumber 25 = .ok (.ireturn, 1) := by decide +kernel
theorem dX6_isNumber_26 : decode cX6_isNumber 26 = .ok (.aload_n 0, 1) := by decide +kernel
theorem dX6_isNumber_27 : decode cX6_isNumber 27 = .ok (.aload_n 0, 1) := by decide +kernel
theorem dX6_isNumber_28 : decode cX6_isNumber 28 = .ok (.getfield 22, 3) := by decide +kernel
theorem dX6_isNumber_31 : decode cX6_isNumber 31 = .ok (.aload_n 0, 1) := by decide +kernel
theorem dX6_isNumber_32 : decode cX6_isNumber 32 = .ok (.getfield 160, 3) := by decide +kernel
theorem dX6_isNumber_35 : decode cX6_isNumber 35 = .ok (.caload, 1) := by decide +kernel
theorem dX6_isNumber_36 : decode cX6_isNumber 36 = .ok (.bipush 48, 2) := by decide +kernel
theorem dX6_isNumber_38 : decode cX6_isNumber 38 = .ok (.isub, 1) := by decide +kernel
theorem dX6_isNumber_39 : decode cX6_isNumber 39 = .ok (.putfield 166, 3) := by decide +kernel
theorem dX6_isNumber_42 : decode cX6_isNumber 42 = .ok (.aload_n 0, 1) := by decide +kernel
theorem dX6_isNumber_43 : decode cX6_isNumber 43 = .ok (.dup, 1) := by decide +kernel
theorem dX6_isNumber_44 : decode cX6_isNumber 44 = .ok (.getfield 160, 3) := by decide +kernel
theorem dX6_isNumber_47 : decode cX6_isNumber 47 = .ok (.iconst 1, 1) := by decide +kernel
theorem dX6_isNumber_48 : decode cX6_isNumber 48 = .ok (.iadd, 1) := by decide +kernel
theorem dX6_isNumber_49 : decode cX6_isNumber 49 = .ok (.putfield 160, 3) := by decide +kernel
theorem dX6_isNumber_52 : decode cX6_isNumber 52 = .ok (.aload_n 0, 1) := by decide +kernel
theorem dX6_isNumber_53 : decode cX6_isNumber 53 = .ok (.getfield 166, 3) := by decide +kernel
theorem dX6_isNumber_56 : decode cX6_isNumber 56 = .ok (.ifCond .le 75, 3) := by decide +kernel
theorem dX6_isNumber_59 : decode cX6_isNumber 59 = .ok (.aload_n 0, 1) := by decide +kernel
theorem dX6_isNumber_60 : decode cX6_isNumber 60 = .ok (.bipush 48, 2) := by decide +kernel
theorem dX6_isNumber_62 : decode cX6_isNumber 62 = .ok (.bipush 57, 2) := by decide +kernel
theorem dX6_isNumber_64 : decode cX6_isNumber 64 = .ok (.invokevirtual 163, 3) := by decide +kernel
theorem dX6_isNumber_67 : decode cX6_isNumber 67 = .ok (.ifCond .eq 64, 3) := by decide +kernel
theorem dX6_isNumber_70 : decode cX6_isNumber 70 = .ok (.bipush 10, 2) := by decide +kernel
theorem dX6_isNumber_72 : decode cX6_isNumber 72 = .ok (.aload_n 0, 1) := by decide +kernel
theorem dX6_isNumber_73 : decode cX6_isNumber 73 = .ok (.getfield 166, 3) := by decide +kernel
theorem dX6_isNumber_76 : decode cX6_isNumber 76 = .ok (.imul, 1) := by decide +kernel
theorem dX6_isNumber_77 : decode cX6_isNumber 77 = .ok (.aload_n 0, 1) := by decide +kernel
theorem dX6_isNumber_78 : decode cX6_isNumber 78 = .ok (.getfield 22, 3) := by decide +kernel
theorem dX6_isNumber_81 : decode cX6_isNumber 81 = .ok (.aload_n 0, 1) := by decide +kernel
theorem dX6_isNumber_82 : decode cX6_isNumber 82 = .ok (.getfield 160, 3) := by decide +kernel
theorem dX6_isNumber_85 : decode cX6_isNumber 85 = .ok (.caload, 1) := by decide +kernel
theorem dX6_isNumber_86 : decode cX6_isNumber 86 = .ok (.iadd, 1) := by decide +kernel
theorem dX6_isNumber_87 : decode cX6_isNumber 87 = .ok (.bipush 48, 2) := by decide +kernel
theorem dX6_isNumber_89 : decode cX6_isNumber 89 = .ok (.isub, 1) := by decide +kernel
theorem dX6_isNumber_90 : decode cX6_isNumber 90 = .ok (.iload_n 1, 1) := by decide +kernel
theorem dX6_isNumber_91 : decode cX6_isNumber 91 = .ok (.if_icmp .gt 40, 3) := by decide +kernel
theorem dX6_isNumber_94 : decode cX6_isNumber 94 = .ok (.aload_n 0, 1) := by decide +kernel
theorem dX6_isNumber_95 : decode cX6_isNumber 95 = .ok (.bipush 10, 2) := by decide +kernel
theorem dX6_isNumber_97 : decode cX6_isNumber 97 = .ok (.aload_n 0, 1) := by decide +kernel
theorem dX6_isNumber_98 : decode cX6_isNumber 98 = .ok (.getfield 166, 3) := by decide +kernel
theorem dX6_isNumber_101 : decode cX6_isNumber 101 = .ok (.imul, 1) := by decide +kernel
theorem dX6_isNumber_102 : decode cX6_isNumber 102 = .ok (.aload_n 0, 1) := by decide +kernel
theorem dX6_isNumber_103 : decode cX6_isNumber 103 = .ok (.getfield 22, 3) := by decide +kernel
theorem dX6_isNumber_106 : decode cX6_isNumber 106 = .ok (.aload_n 0, 1) := by decide +kernel
theorem dX6_isNumber_107 : decode cX6_isNumber 107 = .ok (.getfield 160, 3) := by decide +kernel
theorem dX6_isNumber_110 : decode cX6_isNumber 110 = .ok (.caload, 1) := by decide +kernel
theorem dX6_isNumber_111 : decode cX6_isNumber 111 = .ok (.iadd, 1) := by decide +kernel
theorem dX6_isNumber_112 : decode cX6_isNumber 112 = .ok (.bipush 48, 2) := by decide +kernel
theorem dX6_isNumber_114 : decode cX6_isNumber 114 = .ok (.isub, 1) := by decide +kernel
theorem dX6_isNumber_115 : decode cX6_isNumber 115 = .ok (.putfield 166, 3) := by decide +kernel
theorem dX6_isNumber_118 : decode cX6_isNumber 118 = .ok (.aload_n 0, 1) := by decide +kernel
theorem dX6_isNumber_119 : decode cX6_isNumber 119 = .ok (.dup, 1) := by decide +kernel
theorem dX6_isNumber_120 : decode cX6_isNumber 120 = .ok (.getfield 160, 3) := by decide +kernel
theorem dX6_isNumber_123 : decode cX6_isNumber 123 = .ok (.iconst 1, 1) := by decide +kernel
theorem dX6_isNumber_124 : decode cX6_isNumber 124 = .ok (.iadd, 1) := by decide +kernel
theorem dX6_isNumber_125 : decode cX6_isNumber 125 = .ok (.putfield 160, 3) := by decide +kernel
theorem dX6_isNumber_128 : decode cX6_isNumber 128 = .ok (.goto (-76), 3) := by decide +kernel
theorem dX6_isNumber_131 : decode cX6_isNumber 131 = .ok (.iconst 1, 1) := by decide +kernel
theorem dX6_isNumber_132 : decode cX6_isNumber 132 = .ok (.ireturn, 1) := by decide +kernel
set_option maxRecDepth 20000 in
theorem ggX6_sixteenth_X6_sees : GoodIn wsX6_sixteenth wsX6_sees := goodIn_r _ [7, 1, 8, 2, 9, 10, 6, 11, 12, 13, 14, 15, 16, 17, 18, 19, 20, 21, 22, 23, 24, 25, 26, 27] (by decide +kernel) (by decide +kernel)
set_option maxRecDepth 20000 in
theorem gX6_sixteenth_X6_sees : GoodIn wsX6_sixteenth (wsV RX6 163 RX6 yX6_sees wsX6_sees) := goodIn_app (goodIn_of _ (by decide +kernel)) ggX6_sixteenth_X6_sees
theorem dX6_sixteenth_0 : decode cX6_sixteenth 0 = .ok (.aload_n 0, 1) := by decide +kernel
theorem dX6_sixteenth_1 : decode cX6_sixteenth 1 = .ok (.bipush 48, 2) := by decide +kernel
theorem dX6_sixteenth_3 : decode cX6_sixteenth 3 = .ok (.bipush 57, 2) := by decide +kernel
theorem dX6_sixteenth_5 : decode cX6_sixteenth 5 = .ok (.invokevirtual 163, 3) := by decide +kernel
theorem dX6_sixteenth_8 : decode cX6_sixteenth 8 = .ok (.istore_n 1, 1) := by decide +kernel
theorem dX6_sixteenth_9 : decode cX6_sixteenth 9 = .ok (.iload_n 1, 1) := by decide +kernel
theorem dX6_sixteenth_10 : decode cX6_sixteenth 10 = .ok (.ifCond .ne 17, 3) := by decide +kernel
theorem dX6_sixteenth_13 : decode cX6_sixteenth 13 = .ok (.aload_n 0, 1) := by decide +kernel
theorem dX6_sixteenth_14 : decode cX6_sixteenth 14 = .ok (.bipush 97, 2) := by decide +kernel
theorem dX6_sixteenth_16 : decode cX6_sixteenth 16 = .ok (.bipush 102, 2) := by decide +kernel
theorem dX6_sixteenth_18 : decode cX6_sixteenth 18 = .ok (.invokevirtual 163, 3) := by decide +kernel
theorem dX6_sixteenth_21 : decode cX6_sixteenth 21 = .ok (.ifCond .ne 6, 3) := by decide +kernel
theorem dX6_sixteenth_24 : decode cX6_sixteenth 24 = .ok (.bipush (-5), 2) := by decide +kernel
theorem dX6_sixteenth_26 : decode cX6_sixteenth 26 = .ok (.ireturn, 1) := by decide +kernel
theorem dX6_sixteenth_27 : decode cX6_sixteenth 27 = .ok (.aload_n 0, 1) := by decide +kernel
theorem dX6_sixteenth_28 : decode cX6_sixteenth 28 = .ok (.dup, 1) := by decide +kernel
theorem dX6_sixteenth_29 : decode cX6_sixteenth 29 = .ok (.getfield 160, 3) := by decide +kernel
theorem dX6_sixteenth_32 : decode cX6_sixteenth 32 = .ok (.iconst 1, 1) := by decide +kernel
theorem dX6_sixteenth_33 : decode cX6_sixteenth 33 = .ok (.iadd, 1) := by decide +kernel
theorem dX6_sixteenth_34 : decode cX6_sixteenth 34 = .ok (.putfield 160, 3) := by decide +kernel
theorem dX6_sixteenth_37 : decode cX6_sixteenth 37 = .ok (.iload_n 1, 1) := by decide +kernel
theorem dX6_sixteenth_38 : decode cX6_sixteenth 38 = .ok (.ifCond .eq 20, 3) := by decide +kernel
theorem dX6_sixteenth_41 : decode cX6_sixteenth 41 = .ok (.aload_n 0, 1) := by decide +kernel
theorem dX6_sixteenth_42 : decode cX6_sixteenth 42 = .ok (.getfield 22, 3) := by decide +kernel
theorem dX6_sixteenth_45 : decode cX6_sixteenth 45 = .ok (.aload_n 0, 1) := by decide +kernel
theorem dX6_sixteenth_46 : decode cX6_sixteenth 46 = .ok (.getfield 160, 3) := by decide +kernel
theorem dX6_sixteenth_49 : decode cX6_sixteenth 49 = .ok (.iconst 1, 1) := by decide +kernel
theorem dX6_sixteenth_50 : decode cX6_sixteenth 50 = .ok (.isub, 1) := by decide +kernel
theorem dX6_sixteenth_51 : decode cX6_sixteenth 51 = .ok (.caload, 1) := by decide +kernel
theorem dX6_sixteenth_52 : decode cX6_sixteenth 52 = .ok (.bipush 48, 2) := by decide +kernel
theorem dX6_sixteenth_54 : decode cX6_sixteenth 54 = .ok (.isub, 1) := by decide +kernel
theorem dX6_sixteenth_55 : decode cX6_sixteenth 55 = .ok (.goto 20, 3) := by decide +kernel
theorem dX6_sixteenth_58 : decode cX6_sixteenth 58 = .ok (.aload_n 0, 1) := by decide +kernel
theorem dX6_sixteenth_59 : decode cX6_sixteenth 59 = .ok (.getfield 22, 3) := by decide +kernel
theorem dX6_sixteenth_62 : decode cX6_sixteenth 62 = .ok (.aload_n 0, 1) := by decide +kernel
theorem dX6_sixteenth_63 : decode cX6_sixteenth 63 = .ok (.getfield 160, 3) := by decide +kernel
theorem dX6_sixteenth_66 : decode cX6_sixteenth 66 = .ok (.iconst 1, 1) := by decide +kernel
theorem dX6_sixteenth_67 : decode cX6_sixteenth 67 = .ok (.isub, 1) := by decide +kernel
theorem dX6_sixteenth_68 : decode cX6_sixteenth 68 = .ok (.caload, 1) := by decide +kernel
theorem dX6_sixteenth_69 : decode cX6_sixteenth 69 = .ok (.bipush 97, 2) := by decide +kernel
theorem dX6_sixteenth_71 : decode cX6_sixteenth 71 = .ok (.isub, 1) := by decide +kernel
theorem dX6_sixteenth_72 : decode cX6_sixteenth 72 = .ok (.bipush 10, 2) := by decide +kernel
theorem dX6_sixteenth_74 : decode cX6_sixteenth 74 = .ok (.iadd, 1) := by decide +kernel
theorem dX6_sixteenth_75 : decode cX6_sixteenth 75 = .ok (.ireturn, 1) := by decide +kernel
set_option maxRecDepth 20000 in
theorem ggX6_isSourceTold_X6_takes : GoodIn wsX6_isSourceTold wsX6_takes := goodIn_r _ [6, 7, 8, 9, 10, 5, 11, 12, 13, 14, 15, 16, 21, 22, 23, 24, 25, 26, 27, 28, 29, 30, 31, 32, 33, 34, 35, 36] (by decide +kernel) (by decide +kernel)
set_option maxRecDepth 20000 in
theorem gX6_isSourceTold_X6_takes : GoodIn wsX6_isSourceTold (wsV RX6 169 RX6 yX6_takes wsX6_takes) := goodIn_app (goodIn_of _ (by decide +kernel)) ggX6_isSourceTold_X6_takes
set_option maxRecDepth 20000 in
theorem ggX6_isSourceTold_X6_isNumber : GoodIn wsX6_isSourceTold wsX6_isNumber := goodIn_r _ [20, 13, 7, 1, 8, 9, 10, 5, 11, 12, 14, 15, 16, 21, 22, 23, 24, 25, 26, 27, 28, 29, 30, 31, 32, 33, 34, 35, 36] (by decide +kernel) (by decide +kernel)
set_option maxRecDepth 20000 in
theorem gX6_isSourceTold_X6_isNumber : GoodIn wsX6_isSourceTold (wsV RX6 172 RX6 yX6_isNumber wsX6_isNumber) := goodIn_app (goodIn_of _ (by decide +kernel)) ggX6_isSourceTold_X6_isNumber
set_option maxRecDepth 20000 in
theorem ggX6_isSourceTold_X6_sees : GoodIn wsX6_isSourceTold wsX6_sees := goodIn_r _ [11, 7, 12, 13, 14, 15, 5, 16, 21, 22, 23, 24, 25, 26, 27, 28, 29, 30, 31, 32, 33, 34, 35, 36] (by decide +kernel) (by decide +kernel)
set_option maxRecDepth 20000 in
theorem gX6_isSourceTold_X6_sees : GoodIn wsX6_isSourceTold (wsV RX6 163 RX6 yX6_sees wsX6_sees) := goodIn_app (goodIn_of _ (by decide +kernel)) ggX6_isSourceTold_X6_sees
theorem dX6_isSourceTold_0 : decode cX6_isSourceTold 0 = .ok (.aload_n 0, 1) := by decide +kernel
theorem dX6_isSourceTold_1 : decode cX6_isSourceTold 1 = .ok (.bipush 99, 2) := by decide +kernel
theorem dX6_isSourceTold_3 : decode cX6_isSourceTold 3 = .ok (.invokevirtual 169, 3) := by decide +kernel
theorem dX6_isSourceTold_6 : decode cX6_isSourceTold 6 = .ok (.ifCond .eq 10, 3) := by decide +kernel
theorem dX6_isSourceTold_9 : decode cX6_isSourceTold 9 = .ok (.aload_n 0, 1) := by decide +kernel
theorem dX6_isSourceTold_10 : decode cX6_isSourceTold 10 = .ok (.bipush 23, 2) := by decide +kernel
theorem dX6_isSourceTold_12 : decode cX6_isSourceTold 12 = .ok (.invokevirtual 172, 3) := by decide +kernel
theorem dX6_isSourceTold_15 : decode cX6_isSourceTold 15 = .ok (.ireturn, 1) := by decide +kernel
theorem dX6_isSourceTold_16 : decode cX6_isSourceTold 16 = .ok (.aload_n 0, 1) := by decide +kernel
theorem dX6_isSourceTold_17 : decode cX6_isSourceTold 17 = .ok (.bipush 112, 2) := by decide +kernel
theorem dX6_isSourceTold_19 : decode cX6_isSourceTold 19 = .ok (.invokevirtual 169, 3) := by decide +kernel
theorem dX6_isSourceTold_22 : decode cX6_isSourceTold 22 = .ok (.ifCond .eq 23, 3) := by decide +kernel
theorem dX6_isSourceTold_25 : decode cX6_isSourceTold 25 = .ok (.aload_n 0, 1) := by decide +kernel
theorem dX6_isSourceTold_26 : decode cX6_isSourceTold 26 = .ok (.bipush 7, 2) := by decide +kernel
theorem dX6_isSourceTold_28 : decode cX6_isSourceTold 28 = .ok (.invokevirtual 172, 3) := by decide +kernel
theorem dX6_isSourceTold_31 : decode cX6_isSourceTold 31 = .ok (.istore_n 1, 1) := by decide +kernel
theorem dX6_isSourceTold_32 : decode cX6_isSourceTold 32 = .ok (.aload_n 0, 1) := by decide +kernel
theorem dX6_isSourceTold_33 : decode cX6_isSourceTold 33 = .ok (.dup, 1) := by decide +kernel
theorem dX6_isSourceTold_34 : decode cX6_isSourceTold 34 = .ok (.getfield 166, 3) := by decide +kernel
theorem dX6_isSourceTold_37 : decode cX6_isSourceTold 37 = .ok (.bipush 24, 2) := by decide +kernel
theorem dX6_isSourceTold_39 : decode cX6_isSourceTold 39 = .ok (.iadd, 1) := by decide +kernel
theorem dX6_isSourceTold_40 : decode cX6_isSourceTold 40 = .ok (.putfield 166, 3) := by decide +kernel
theorem dX6_isSourceTold_43 : decode cX6_isSourceTold 43 = .ok (.iload_n 1, 1) := by decide +kernel
theorem dX6_isSourceTold_44 : decode cX6_isSourceTold 44 = .ok (.ireturn, 1) := by decide +kernel
theorem dX6_isSourceTold_45 : decode cX6_isSourceTold 45 = .ok (.aload_n 0, 1) := by decide +kernel
theorem dX6_isSourceTold_46 : decode cX6_isSourceTold 46 = .ok (.bipush 49, 2) := by decide +kernel
theorem dX6_isSourceTold_48 : decode cX6_isSourceTold 48 = .ok (.bipush 49, 2) := by decide +kernel
theorem dX6_isSourceTold_50 : decode cX6_isSourceTold 50 = .ok (.invokevirtual 163, 3) := by decide +kernel
theorem dX6_isSourceTold_53 : decode cX6_isSourceTold 53 = .ok (.istore_n 1, 1) := by decide +kernel
theorem dX6_isSourceTold_54 : decode cX6_isSourceTold 54 = .ok (.aload_n 0, 1) := by decide +kernel
theorem dX6_isSourceTold_55 : decode cX6_isSourceTold 55 = .ok (.iload_n 1, 1) := by decide +kernel
theorem dX6_isSourceTold_56 : decode cX6_isSourceTold 56 = .ok (.ifCond .eq 8, 3) := by decide +kernel
theorem dX6_isSourceTold_59 : decode cX6_isSourceTold 59 = .ok (.bipush 33, 2) := by decide +kernel
theorem dX6_isSourceTold_61 : decode cX6_isSourceTold 61 = .ok (.goto 5, 3) := by decide +kernel
theorem dX6_isSourceTold_64 : decode cX6_isSourceTold 64 = .ok (.bipush 32, 2) := by decide +kernel
theorem dX6_isSourceTold_66 : decode cX6_isSourceTold 66 = .ok (.putfield 166, 3) := by decide +kernel
theorem dX6_isSourceTold_69 : decode cX6_isSourceTold 69 = .ok (.aload_n 0, 1) := by decide +kernel
theorem dX6_isSourceTold_70 : decode cX6_isSourceTold 70 = .ok (.iload_n 1, 1) := by decide +kernel
theorem dX6_isSourceTold_71 : decode cX6_isSourceTold 71 = .ok (.ifCond .eq 8, 3) := by decide +kernel
theorem dX6_isSourceTold_74 : decode cX6_isSourceTold 74 = .ok (.bipush 49, 2) := by decide +kernel
theorem dX6_isSourceTold_76 : decode cX6_isSourceTold 76 = .ok (.goto 5, 3) := by decide +kernel
theorem dX6_isSourceTold_79 : decode cX6_isSourceTold 79 = .ok (.bipush 48, 2) := by decide +kernel
theorem dX6_isSourceTold_81 : decode cX6_isSourceTold 81 = .ok (.invokevirtual 169, 3) := by decide +kernel
theorem dX6_isSourceTold_84 : decode cX6_isSourceTold 84 = .ok (.ireturn, 1) := by decide +kernel
set_option maxRecDepth 20000 in
theorem ggX6_areSources_X6_takes : GoodIn wsX6_areSources wsX6_takes := goodIn_r _ [7, 8, 9, 10, 11, 6, 12, 13, 14, 15, 16, 17, 26, 27, 28, 29, 30, 31, 32, 33, 34, 35, 36, 37, 38, 39, 40, 41] (by decide +kernel) (by decide +kernel)
set_option maxRecDepth 20000 in
theorem gX6_areSources_X6_takes : GoodIn wsX6_areSources (wsV RX6 169 RX6 yX6_takes wsX6_takes) := goodIn_app (goodIn_of _ (by decide +kernel)) ggX6_areSources_X6_takes
set_option maxRecDepth 20000 in
theorem ggX6_areSources_X6_isSourceTold : GoodIn wsX6_areSources wsX6_isSourceTold := goodIn_r _ [21, 2, 3, 4, 5, 6, 7, 8, 9, 10, 11, 12, 13, 14, 15, 16, 17, 22, 23, 24, 25, 26, 27, 28, 29, 30, 31, 32, 33, 34, 35, 36, 37, 38, 39, 40, 41] (by decide +kernel) (by decide +kernel)
set_option maxRecDepth 20000 in
theorem gX6_areSources_X6_isSourceTold : GoodIn wsX6_areSources (wsV RX6 175 RX6 yX6_isSourceTold wsX6_isSourceTold) := goodIn_app (goodIn_of _ (by decide +kernel)) ggX6_areSources_X6_isSourceTold
theorem dX6_areSources_0 : decode cX6_areSources 0 = .ok (.iconst 0, 1) := by decide +kernel
theorem dX6_areSources_1 : decode cX6_areSources 1 = .ok (.istore_n 2, 1) := by decide +kernel
theorem dX6_areSources_2 : decode cX6_areSources 2 = .ok (.iload_n 2, 1) := by decide +kernel
theorem dX6_areSources_3 : decode cX6_areSources 3 = .ok (.iconst 3, 1) := by decide +kernel
theorem dX6_areSources_4 : decode cX6_areSources 4 = .ok (.if_icmp .ge 24, 3) := by decide +kernel
theorem dX6_areSources_7 : decode cX6_areSources 7 = .ok (.aload_n 0, 1) := by decide +kernel
theorem dX6_areSources_8 : decode cX6_areSources 8 = .ok (.getfield 36, 3) := by decide +kernel
theorem dX6_areSources_11 : decode cX6_areSources 11 = .ok (.bipush 24, 2) := by decide +kernel
theorem dX6_areSources_13 : decode cX6_areSources 13 = .ok (.iconst 3, 1) := by decide +kernel
theorem dX6_areSources_14 : decode cX6_areSources 14 = .ok (.iload_n 1, 1) := by decide +kernel
theorem dX6_areSources_15 : decode cX6_areSources 15 = .ok (.imul, 1) := by decide +kernel
theorem dX6_areSources_16 : decode cX6_areSources 16 = .ok (.iadd, 1) := by decide +kernel
theorem dX6_areSources_17 : decode cX6_areSources 17 = .ok (.iload_n 2, 1) := by decide +kernel
theorem dX6_areSources_18 : decode cX6_areSources 18 = .ok (.iadd, 1) := by decide +kernel
theorem dX6_areSources_19 : decode cX6_areSources 19 = .ok (.bipush 32, 2) := by decide +kernel
theorem dX6_areSources_21 : decode cX6_areSources 21 = .ok (.iastore, 1) := by decide +kernel
theorem dX6_areSources_22 : decode cX6_areSources 22 = .ok (.iinc 2 1, 3) := by decide +kernel
theorem dX6_areSources_25 : decode cX6_areSources 25 = .ok (.goto (-23), 3) := by decide +kernel
theorem dX6_areSources_28 : decode cX6_areSources 28 = .ok (.iconst 0, 1) := by decide +kernel
theorem dX6_areSources_29 : decode cX6_areSources 29 = .ok (.istore_n 2, 1) := by decide +kernel
theorem dX6_areSources_30 : decode cX6_areSources 30 = .ok (.iload_n 2, 1) := by decide +kernel
theorem dX6_areSources_31 : decode cX6_areSources 31 = .ok (.iconst 3, 1) := by decide +kernel
theorem dX6_areSources_32 : decode cX6_areSources 32 = .ok (.if_icmp .ge 44, 3) := by decide +kernel
theorem dX6_areSources_35 : decode cX6_areSources 35 = .ok (.aload_n 0, 1) := by decide +kernel
theorem dX6_areSources_36 : decode cX6_areSources 36 = .ok (.bipush 47, 2) := by decide +kernel
theorem dX6_areSources_38 : decode cX6_areSources 38 = .ok (.invokevirtual 169, 3) := by decide +kernel
theorem dX6_areSources_41 : decode cX6_areSources 41 = .ok (.ifCond .eq 35, 3) := by decide +kernel
theorem dX6_areSources_44 : decode cX6_areSources 44 = .ok (.aload_n 0, 1) := by decide +kernel
theorem dX6_areSources_45 : decode cX6_areSources 45 = .ok (.invokevirtual 175, 3) := by decide +kernel
theorem dX6_areSources_48 : decode cX6_areSources 48 = .ok (.ifCond .ne 5, 3) := by decide +kernel
theorem dX6_areSources_51 : decode cX6_areSources 51 = .ok (.iconst 0, 1) := by decide +kernel
theorem dX6_areSources_52 : decode cX6_areSources 52 = .ok (.ireturn, 1) := by decide +kernel
theorem dX6_areSources_53 : decode cX6_areSources 53 = .ok (.aload_n 0, 1) := by decide +kernel
theorem dX6_areSources_54 : decode cX6_areSources 54 = .ok (.getfield 36, 3) := by decide +kernel
theorem dX6_areSources_57 : decode cX6_areSources 57 = .ok (.bipush 24, 2) := by decide +kernel
theorem dX6_areSources_59 : decode cX6_areSources 59 = .ok (.iconst 3, 1) := by decide +kernel
theorem dX6_areSources_60 : decode cX6_areSources 60 = .ok (.iload_n 1, 1) := by decide +kernel
theorem dX6_areSources_61 : decode cX6_areSources 61 = .ok (.imul, 1) := by decide +kernel
theorem dX6_areSources_62 : decode cX6_areSources 62 = .ok (.iadd, 1) := by decide +kernel
theorem dX6_areSources_63 : decode cX6_areSources 63 = .ok (.iload_n 2, 1) := by decide +kernel
theorem dX6_areSources_64 : decode cX6_areSources 64 = .ok (.iadd, 1) := by decide +kernel
theorem dX6_areSources_65 : decode cX6_areSources 65 = .ok (.aload_n 0, 1) := by decide +kernel
theorem dX6_areSources_66 : decode cX6_areSources 66 = .ok (.getfield 166, 3) := by decide +kernel
theorem dX6_areSources_69 : decode cX6_areSources 69 = .ok (.iastore, 1) := by decide +kernel
theorem dX6_areSources_70 : decode cX6_areSources 70 = .ok (.iinc 2 1, 3) := by decide +kernel
theorem dX6_areSources_73 : decode cX6_areSources 73 = .ok (.goto (-43), 3) := by decide +kernel
theorem dX6_areSources_76 : decode cX6_areSources 76 = .ok (.iconst 1, 1) := by decide +kernel
theorem dX6_areSources_77 : decode cX6_areSources 77 = .ok (.ireturn, 1) := by decide +kernel
set_option maxRecDepth 20000 in
theorem ggX6_isCellTold_X6_isNumber : GoodIn wsX6_isCellTold wsX6_isNumber := goodIn_r _ [7, 8, 9, 1, 10, 11, 12, 6, 13, 14, 15, 16, 17, 34, 35, 36, 37, 38, 39, 40, 41, 42, 43, 44, 45, 46, 47, 48, 49] (by decide +kernel) (by decide +kernel)
set_option maxRecDepth 20000 in
theorem gX6_isCellTold_X6_isNumber : GoodIn wsX6_isCellTold (wsV RX6 172 RX6 yX6_isNumber wsX6_isNumber) := goodIn_app (goodIn_of _ (by decide +kernel)) ggX6_isCellTold_X6_isNumber
set_option maxRecDepth 20000 in
theorem ggX6_isCellTold_X6_takes : GoodIn wsX6_isCellTold wsX6_takes := goodIn_r _ [21, 9, 10, 11, 12, 6, 13, 14, 8, 15, 16, 17, 34, 35, 36, 37, 38, 39, 40, 41, 42, 43, 44, 45, 46, 47, 48, 49] (by decide +kernel) (by decide +kernel)
set_option maxRecDepth 20000 in
theorem gX6_isCellTold_X6_takes : GoodIn wsX6_isCellTold (wsV RX6 169 RX6 yX6_takes wsX6_takes) := goodIn_app (goodIn_of _ (by decide +kernel)) ggX6_isCellTold_X6_takes
set_option maxRecDepth 20000 in
theorem ggX6_isCellTold_X6_sixteenth : GoodIn wsX6_isCellTold wsX6_sixteenth := goodIn_r _ [25, 9, 8, 10, 11, 12, 6, 13, 14, 15, 16, 17, 34, 35, 36, 37, 38, 39, 40, 41, 42, 43, 44, 45, 46, 47, 48, 49] (by decide +kernel) (by decide +kernel)
set_option maxRecDepth 20000 in
theorem gX6_isCellTold_X6_sixteenth : GoodIn wsX6_isCellTold (wsV RX6 179 RX6 yX6_sixteenth wsX6_sixteenth) := goodIn_app (goodIn_of _ (by decide +kernel)) ggX6_isCellTold_X6_sixteenth
set_option maxRecDepth 20000 in
theorem ggX6_isCellTold_X6_areSources : GoodIn wsX6_isCellTold wsX6_areSources := goodIn_r _ [29, 2, 1, 18, 19, 20, 6, 21, 9, 10, 11, 12, 13, 14, 8, 15, 16, 17, 30, 31, 32, 33, 3, 4, 5, 7, 34, 35, 36, 37, 38, 39, 40, 41, 42, 43, 44, 45, 46, 47, 48, 49] (by decide +kernel) (by decide +kernel)
set_option maxRecDepth 20000 in
theorem gX6_isCellTold_X6_areSources : GoodIn wsX6_isCellTold (wsV RX6 182 RX6 yX6_areSources wsX6_areSources) := goodIn_app (goodIn_of _ (by decide +kernel)) ggX6_isCellTold_X6_areSources
theorem dX6_isCellTold_0 : decode cX6_isCellTold 0 = .ok (.aload_n 0, 1) := by decide +kernel
theorem dX6_isCellTold_1 : decode cX6_isCellTold 1 = .ok (.bipush 23, 2) := by decide +kernel
theorem dX6_isCellTold_3 : decode cX6_isCellTold 3 = .ok (.invokevirtual 172, 3) := by decide +kernel
theorem dX6_isCellTold_6 : decode cX6_isCellTold 6 = .ok (.ifCond .eq 12, 3) := by decide +kernel
theorem dX6_isCellTold_9 : decode cX6_isCellTold 9 = .ok (.aload_n 0, 1) := by decide +kernel
theorem dX6_isCellTold_10 : decode cX6_isCellTold 10 = .ok (.bipush 61, 2) := by decide +kernel
theorem dX6_isCellTold_12 : decode cX6_isCellTold 12 = .ok (.invokevirtual 169, 3) := by decide +kernel
theorem dX6_isCellTold_15 : decode cX6_isCellTold 15 = .ok (.ifCond .ne 5, 3) := by decide +kernel
theorem dX6_isCellTold_18 : decode cX6_isCellTold 18 = .ok (.iconst 0, 1) := by decide +kernel
theorem dX6_isCellTold_19 : decode cX6_isCellTold 19 = .ok (.ireturn, 1) := by decide +kernel
theorem dX6_isCellTold_20 : decode cX6_isCellTold 20 = .ok (.aload_n 0, 1) := by decide +kernel
theorem dX6_isCellTold_21 : decode cX6_isCellTold 21 = .ok (.getfield 166, 3) := by decide +kernel
theorem dX6_isCellTold_24 : decode cX6_isCellTold 24 = .ok (.istore_n 1, 1) := by decide +kernel
theorem dX6_isCellTold_25 : decode cX6_isCellTold 25 = .ok (.aload_n 0, 1) := by decide +kernel
theorem dX6_isCellTold_26 : decode cX6_isCellTold 26 = .ok (.invokevirtual 179, 3) := by decide +kernel
theorem dX6_isCellTold_29 : decode cX6_isCellTold 29 = .ok (.istore_n 2, 1) := by decide +kernel
theorem dX6_isCellTold_30 : decode cX6_isCellTold 30 = .ok (.iload_n 2, 1) := by decide +kernel
theorem dX6_isCellTold_31 : decode cX6_isCellTold 31 = .ok (.bipush (-5), 2) := by decide +kernel
theorem dX6_isCellTold_33 : decode cX6_isCellTold 33 = .ok (.if_icmp .ne 8, 3) := by decide +kernel
theorem dX6_isCellTold_36 : decode cX6_isCellTold 36 = .ok (.bipush (-5), 2) := by decide +kernel
theorem dX6_isCellTold_38 : decode cX6_isCellTold 38 = .ok (.goto 7, 3) := by decide +kernel
theorem dX6_isCellTold_41 : decode cX6_isCellTold 41 = .ok (.aload_n 0, 1) := by decide +kernel
theorem dX6_isCellTold_42 : decode cX6_isCellTold 42 = .ok (.invokevirtual 179, 3) := by decide +kernel
theorem dX6_isCellTold_45 : decode cX6_isCellTold 45 = .ok (.istore_n 3, 1) := by decide +kernel
theorem dX6_isCellTold_46 : decode cX6_isCellTold 46 = .ok (.iload_n 3, 1) := by decide +kernel
theorem dX6_isCellTold_47 : decode cX6_isCellTold 47 = .ok (.bipush (-5), 2) := by decide +kernel
theorem dX6_isCellTold_49 : decode cX6_isCellTold 49 = .ok (.if_icmp .ne 5, 3) := by decide +kernel
theorem dX6_isCellTold_52 : decode cX6_isCellTold 52 = .ok (.iconst 0, 1) := by decide +kernel
theorem dX6_isCellTold_53 : decode cX6_isCellTold 53 = .ok (.ireturn, 1) := by decide +kernel
theorem dX6_isCellTold_54 : decode cX6_isCellTold 54 = .ok (.aload_n 0, 1) := by decide +kernel
theorem dX6_isCellTold_55 : decode cX6_isCellTold 55 = .ok (.getfield 36, 3) := by decide +kernel
theorem dX6_isCellTold_58 : decode cX6_isCellTold 58 = .ok (.iload_n 1, 1) := by decide +kernel
theorem dX6_isCellTold_59 : decode cX6_isCellTold 59 = .ok (.bipush 16, 2) := by decide +kernel
theorem dX6_isCellTold_61 : decode cX6_isCellTold 61 = .ok (.iload_n 2, 1) := by decide +kernel
theorem dX6_isCellTold_62 : decode cX6_isCellTold 62 = .ok (.imul, 1) := by decide +kernel
theorem dX6_isCellTold_63 : decode cX6_isCellTold 63 = .ok (.iload_n 3, 1) := by decide +kernel
theorem dX6_isCellTold_64 : decode cX6_isCellTold 64 = .ok (.iadd, 1) := by decide +kernel
theorem dX6_isCellTold_65 : decode cX6_isCellTold 65 = .ok (.iastore, 1) := by decide +kernel
theorem dX6_isCellTold_66 : decode cX6_isCellTold 66 = .ok (.aload_n 0, 1) := by decide +kernel
theorem dX6_isCellTold_67 : decode cX6_isCellTold 67 = .ok (.iload_n 1, 1) := by decide +kernel
theorem dX6_isCellTold_68 : decode cX6_isCellTold 68 = .ok (.invokevirtual 182, 3) := by decide +kernel
theorem dX6_isCellTold_71 : decode cX6_isCellTold 71 = .ok (.ireturn, 1) := by decide +kernel
set_option maxRecDepth 20000 in
theorem ggX6_fault_X6_isCellTold : GoodIn wsX6_fault wsX6_isCellTold := goodIn_r _ [8, 9, 2, 10, 11, 12, 7, 13, 14, 1, 15, 16, 17, 18, 3, 19, 20, 21, 22, 23, 24, 25, 26, 27, 28, 29, 30, 31, 32, 33, 34, 35, 36, 37, 38, 39, 40, 41, 42, 43, 44, 45, 46, 47, 48, 49, 50, 51, 52, 53] (by decide +kernel) (by decide +kernel)
set_option maxRecDepth 20000 in
theorem gX6_fault_X6_isCellTold : GoodIn wsX6_fault (wsV RX6 185 RX6 yX6_isCellTold wsX6_isCellTold) := goodIn_app (goodIn_of _ (by decide +kernel)) ggX6_fault_X6_isCellTold
set_option maxRecDepth 20000 in
theorem ggX6_fault_X6_takes : GoodIn wsX6_fault wsX6_takes := goodIn_r _ [25, 1, 15, 16, 17, 7, 18, 3, 14, 19, 20, 21, 38, 39, 40, 41, 42, 43, 44, 45, 46, 47, 48, 49, 50, 51, 52, 53] (by decide +kernel) (by decide +kernel)
set_option maxRecDepth 20000 in
theorem gX6_fault_X6_takes : GoodIn wsX6_fault (wsV RX6 169 RX6 yX6_takes wsX6_takes) := goodIn_app (goodIn_of _ (by decide +kernel)) ggX6_fault_X6_takes
theorem dX6_fault_0 : decode cX6_fault 0 = .ok (.aload_n 0, 1) := by decide +kernel
theorem dX6_fault_1 : decode cX6_fault 1 = .ok (.iconst 0, 1) := by decide +kernel
theorem dX6_fault_2 : decode cX6_fault 2 = .ok (.putfield 160, 3) := by decide +kernel
theorem dX6_fault_5 : decode cX6_fault 5 = .ok (.iconst 0, 1) := by decide +kernel
theorem dX6_fault_6 : decode cX6_fault 6 = .ok (.istore_n 1, 1) := by decide +kernel
theorem dX6_fault_7 : decode cX6_fault 7 = .ok (.iload_n 1, 1) := by decide +kernel
theorem dX6_fault_8 : decode cX6_fault 8 = .ok (.bipush 24, 2) := by decide +kernel
theorem dX6_fault_10 : decode cX6_fault 10 = .ok (.if_icmp .ge 17, 3) := by decide +kernel
theorem dX6_fault_13 : decode cX6_fault 13 = .ok (.aload_n 0, 1) := by decide +kernel
theorem dX6_fault_14 : decode cX6_fault 14 = .ok (.getfield 36, 3) := by decide +kernel
theorem dX6_fault_17 : decode cX6_fault 17 = .ok (.iload_n 1, 1) := by decide +kernel
theorem dX6_fault_18 : decode cX6_fault 18 = .ok (.bipush (-5), 2) := by decide +kernel
theorem dX6_fault_20 : decode cX6_fault 20 = .ok (.iastore, 1) := by decide +kernel
theorem dX6_fault_21 : decode cX6_fault 21 = .ok (.iinc 1 1, 3) := by decide +kernel
theorem dX6_fault_24 : decode cX6_fault 24 = .ok (.goto (-17), 3) := by decide +kernel
theorem dX6_fault_27 : decode cX6_fault 27 = .ok (.iconst 1, 1) := by decide +kernel
theorem dX6_fault_28 : decode cX6_fault 28 = .ok (.istore_n 1, 1) := by decide +kernel
theorem dX6_fault_29 : decode cX6_fault 29 = .ok (.iload_n 1, 1) := by decide +kernel
theorem dX6_fault_30 : decode cX6_fault 30 = .ok (.ifCond .eq 25, 3) := by decide +kernel
theorem dX6_fault_33 : decode cX6_fault 33 = .ok (.aload_n 0, 1) := by decide +kernel
theorem dX6_fault_34 : decode cX6_fault 34 = .ok (.invokevirtual 185, 3) := by decide +kernel
theorem dX6_fault_37 : decode cX6_fault 37 = .ok (.ifCond .ne 8, 3) := by decide +kernel
theorem dX6_fault_40 : decode cX6_fault 40 = .ok (.aload_n 0, 1) := by decide +kernel
theorem dX6_fault_41 : decode cX6_fault 41 = .ok (.getfield 160, 3) := by decide +kernel
theorem dX6_fault_44 : decode cX6_fault 44 = .ok (.ireturn, 1) := by decide +kernel
theorem dX6_fault_45 : decode cX6_fault 45 = .ok (.aload_n 0, 1) := by decide +kernel
theorem dX6_fault_46 : decode cX6_fault 46 = .ok (.bipush 59, 2) := by decide +kernel
theorem dX6_fault_48 : decode cX6_fault 48 = .ok (.invokevirtual 169, 3) := by decide +kernel
theorem dX6_fault_51 : decode cX6_fault 51 = .ok (.istore_n 1, 1) := by decide +kernel
theorem dX6_fault_52 : decode cX6_fault 52 = .ok (.goto (-23), 3) := by decide +kernel
theorem dX6_fault_55 : decode cX6_fault 55 = .ok (.aload_n 0, 1) := by decide +kernel
theorem dX6_fault_56 : decode cX6_fault 56 = .ok (.getfield 160, 3) := by decide +kernel
theorem dX6_fault_59 : decode cX6_fault 59 = .ok (.aload_n 0, 1) := by decide +kernel
theorem dX6_fault_60 : decode cX6_fault 60 = .ok (.getfield 157, 3) := by decide +kernel
theorem dX6_fault_63 : decode cX6_fault 63 = .ok (.if_icmp .ne 8, 3) := by decide +kernel
theorem dX6_fault_66 : decode cX6_fault 66 = .ok (.bipush (-5), 2) := by decide +kernel
theorem dX6_fault_68 : decode cX6_fault 68 = .ok (.goto 7, 3) := by decide +kernel
theorem dX6_fault_71 : decode cX6_fault 71 = .ok (.aload_n 0, 1) := by decide +kernel
theorem dX6_fault_72 : decode cX6_fault 72 = .ok (.getfield 160, 3) := by decide +kernel
theorem dX6_fault_75 : decode cX6_fault 75 = .ok (.ireturn, 1) := by decide +kernel
set_option maxRecDepth 20000 in
theorem ggX6_load_X6_fault : GoodIn wsX6_load wsX6_fault := goodIn_r _ [8, 9, 3, 10, 11, 12, 13, 7, 14, 15, 16, 17, 18, 19, 20, 21, 22, 23, 24, 25, 26, 27, 28, 29, 30, 31, 32, 33, 34, 35, 36, 37, 38, 39, 40, 41, 42, 43, 131, 132, 133, 134, 135, 136, 137, 138, 139, 140, 141, 142, 143, 144, 145, 146] (by decide +kernel) (by decide +kernel)
set_option maxRecDepth 20000 in
theorem gX6_load_X6_fault : GoodIn wsX6_load (wsV RX6 188 RX6 yX6_fault wsX6_fault) := goodIn_app (goodIn_of _ (by decide +kernel)) ggX6_load_X6_fault
set_option maxRecDepth 20000 in
theorem ggX6_load_X6_lays : GoodIn wsX6_load wsX6_lays := goodIn_r _ [46] (by decide +kernel) (by decide +kernel)
set_option maxRecDepth 20000 in
theorem gX6_load_X6_lays : GoodIn wsX6_load (va_wsS RX6 49 yX6_lays wsX6_lays) := goodIn_app (goodIn_of _ (by decide +kernel)) ggX6_load_X6_lays
set_option maxRecDepth 20000 in
theorem ggX6_load_X6_empties : GoodIn wsX6_load wsX6_empties := goodIn_r _ [49, 50, 51, 7, 52] (by decide +kernel) (by decide +kernel)
set_option maxRecDepth 20000 in
theorem gX6_load_X6_empties : GoodIn wsX6_load (va_wsS RX6 128 yX6_empties wsX6_empties) := goodIn_app (goodIn_of _ (by decide +kernel)) ggX6_load_X6_empties
set_option maxRecDepth 20000 in
theorem ggX6_load_X6_isSource : GoodIn wsX6_load wsX6_isSource := goodIn_r _ [55, 25, 26, 7, 27, 56, 57, 58, 59, 60, 61] (by decide +kernel) (by decide +kernel)
set_option maxRecDepth 20000 in
theorem gX6_load_X6_isSource : GoodIn wsX6_load (va_wsS RX6 134 yX6_isSource wsX6_isSource) := goodIn_app (goodIn_of _ (by decide +kernel)) ggX6_load_X6_isSource
set_option maxRecDepth 20000 in
theorem ggX6_load_X6_laysAll : GoodIn wsX6_load wsX6_laysAll := goodIn_r _ [65, 66, 50, 51, 7, 52, 67, 68, 69, 70, 71, 72, 73, 74, 75, 76, 77, 78, 79, 80, 81, 56, 57, 58, 59, 60, 61, 25, 26, 27, 82, 83, 84, 85, 86, 87, 88, 89, 90, 91, 92, 93, 94, 95, 96, 97, 98, 99, 100, 101, 102, 103, 104, 105, 106, 107, 108, 109, 110, 111, 112, 113, 114, 115, 116, 117, 131, 132, 133, 134, 135, 136, 137, 138, 139, 140, 141, 142, 143, 144, 145, 146] (by decide +kernel) (by decide +kernel)
set_option maxRecDepth 20000 in
theorem gX6_load_X6_laysAll : GoodIn wsX6_load (wsV RX6 137 RX6 yX6_laysAll wsX6_laysAll) := goodIn_app (goodIn_of _ (by decide +kernel)) ggX6_load_X6_laysAll
set_option maxRecDepth 20000 in
theorem ggX6_load_X6_accepts : GoodIn wsX6_load wsX6_accepts := goodIn_r _ [121, 2, 1, 122, 123, 124, 7, 125, 126, 127, 44, 45, 46, 131, 132, 133, 134, 135, 136, 137, 138, 139, 140, 141, 142, 143, 144, 145, 146] (by decide +kernel) (by decide +kernel)
set_option maxRecDepth 20000 in
theorem gX6_load_X6_accepts : GoodIn wsX6_load (wsV RX6 147 RX6 yX6_accepts wsX6_accepts) := goodIn_app (goodIn_of _ (by decide +kernel)) ggX6_load_X6_accepts
set_option maxRecDepth 20000 in
theorem ggX6_load_X6_cells : GoodIn wsX6_load wsX6_cells := goodIn_r _ [130, 56, 57, 7, 58, 59, 60, 61, 25, 26, 27] (by decide +kernel) (by decide +kernel)
set_option maxRecDepth 20000 in
theorem gX6_load_X6_cells : GoodIn wsX6_load (va_wsS RX6 122 yX6_cells wsX6_cells) := goodIn_app (goodIn_of _ (by decide +kernel)) ggX6_load_X6_cells
theorem dX6_load_0 : decode cX6_load 0 = .ok (.aload_n 0, 1) := by decide +kernel
theorem dX6_load_1 : decode cX6_load 1 = .ok (.invokevirtual 188, 3) := by decide +kernel
theorem dX6_load_4 : decode cX6_load 4 = .ok (.istore_n 1, 1) := by decide +kernel
theorem dX6_load_5 : decode cX6_load 5 = .ok (.iload_n 1, 1) := by decide +kernel
theorem dX6_load_6 : decode cX6_load 6 = .ok (.bipush (-5), 2) := by decide +kernel
theorem dX6_load_8 : decode cX6_load 8 = .ok (.if_icmp .eq 8, 3) := by decide +kernel
theorem dX6_load_11 : decode cX6_load 11 = .ok (.bipush (-100), 2) := by decide +kernel
theorem dX6_load_13 : decode cX6_load 13 = .ok (.iload_n 1, 1) := by decide +kernel
theorem dX6_load_14 : decode cX6_load 14 = .ok (.isub, 1) := by decide +kernel
theorem dX6_load_15 : decode cX6_load 15 = .ok (.ireturn, 1) := by decide +kernel
theorem dX6_load_16 : decode cX6_load 16 = .ok (.aload_n 0, 1) := by decide +kernel
theorem dX6_load_17 : decode cX6_load 17 = .ok (.getfield 7, 3) := by decide +kernel
theorem dX6_load_20 : decode cX6_load 20 = .ok (.iconst 0, 1) := by decide +kernel
theorem dX6_load_21 : decode cX6_load 21 = .ok (.aload_n 0, 1) := by decide +kernel
theorem dX6_load_22 : decode cX6_load 22 = .ok (.getfield 13, 3) := by decide +kernel
theorem dX6_load_25 : decode cX6_load 25 = .ok (.iconst 0, 1) := by decide +kernel
theorem dX6_load_26 : decode cX6_load 26 = .ok (.invokestatic 49, 3) := by decide +kernel
theorem dX6_load_29 : decode cX6_load 29 = .ok (.iconst 0, 1) := by decide +kernel
theorem dX6_load_30 : decode cX6_load 30 = .ok (.istore_n 2, 1) := by decide +kernel
theorem dX6_load_31 : decode cX6_load 31 = .ok (.iload_n 2, 1) := by decide +kernel
theorem dX6_load_32 : decode cX6_load 32 = .ok (.bipush 24, 2) := by decide +kernel
theorem dX6_load_34 : decode cX6_load 34 = .ok (.if_icmp .ge 31, 3) := by decide +kernel
theorem dX6_load_37 : decode cX6_load 37 = .ok (.aload_n 0, 1) := by decide +kernel
theorem dX6_load_38 : decode cX6_load 38 = .ok (.getfield 13, 3) := by decide +kernel
theorem dX6_load_41 : decode cX6_load 41 = .ok (.iload_n 2, 1) := by decide +kernel
theorem dX6_load_42 : decode cX6_load 42 = .ok (.invokestatic 128, 3) := by decide +kernel
theorem dX6_load_45 : decode cX6_load 45 = .ok (.aload_n 0, 1) := by decide +kernel
theorem dX6_load_46 : decode cX6_load 46 = .ok (.getfield 13, 3) := by decide +kernel
theorem dX6_load_49 : decode cX6_load 49 = .ok (.iconst 0, 1) := by decide +kernel
theorem dX6_load_50 : decode cX6_load 50 = .ok (.iload_n 2, 1) := by decide +kernel
theorem dX6_load_51 : decode cX6_load 51 = .ok (.iadd, 1) := by decide +kernel
theorem dX6_load_52 : decode cX6_load 52 = .ok (.aload_n 0, 1) := by decide +kernel
theorem dX6_load_53 : decode cX6_load 53 = .ok (.getfield 36, 3) := by decide +kernel
theorem dX6_load_56 : decode cX6_load 56 = .ok (.iload_n 2, 1) := by decide +kernel
theorem dX6_load_57 : decode cX6_load 57 = .ok (.iaload, 1) := by decide +kernel
theorem dX6_load_58 : decode cX6_load 58 = .ok (.iastore, 1) := by decide +kernel
theorem dX6_load_59 : decode cX6_load 59 = .ok (.iinc 2 1, 3) := by decide +kernel
theorem dX6_load_62 : decode cX6_load 62 = .ok (.goto (-31), 3) := by decide +kernel
theorem dX6_load_65 : decode cX6_load 65 = .ok (.iconst 0, 1) := by decide +kernel
theorem dX6_load_66 : decode cX6_load 66 = .ok (.istore_n 2, 1) := by decide +kernel
theorem dX6_load_67 : decode cX6_load 67 = .ok (.iload_n 2, 1) := by decide +kernel
theorem dX6_load_68 : decode cX6_load 68 = .ok (.bipush 72, 2) := by decide +kernel
theorem dX6_load_70 : decode cX6_load 70 = .ok (.if_icmp .ge 62, 3) := by decide +kernel
theorem dX6_load_73 : decode cX6_load 73 = .ok (.aload_n 0, 1) := by decide +kernel
theorem dX6_load_74 : decode cX6_load 74 = .ok (.getfield 36, 3) := by decide +kernel
theorem dX6_load_77 : decode cX6_load 77 = .ok (.iload_n 2, 1) := by decide +kernel
theorem dX6_load_78 : decode cX6_load 78 = .ok (.iconst 3, 1) := by decide +kernel
theorem dX6_load_79 : decode cX6_load 79 = .ok (.idiv, 1) := by decide +kernel
theorem dX6_load_80 : decode cX6_load 80 = .ok (.iaload, 1) := by decide +kernel
theorem dX6_load_81 : decode cX6_load 81 = .ok (.bipush (-5), 2) := by decide +kernel
theorem dX6_load_83 : decode cX6_load 83 = .ok (.if_icmp .eq 43, 3) := by decide +kernel
theorem dX6_load_86 : decode cX6_load 86 = .ok (.aload_n 0, 1) := by decide +kernel
theorem dX6_load_87 : decode cX6_load 87 = .ok (.getfield 13, 3) := by decide +kernel
theorem dX6_load_90 : decode cX6_load 90 = .ok (.bipush 24, 2) := by decide +kernel
theorem dX6_load_92 : decode cX6_load 92 = .ok (.iload_n 2, 1) := by decide +kernel
theorem dX6_load_93 : decode cX6_load 93 = .ok (.iadd, 1) := by decide +kernel
theorem dX6_load_94 : decode cX6_load 94 = .ok (.aload_n 0, 1) := by decide +kernel
theorem dX6_load_95 : decode cX6_load 95 = .ok (.getfield 36, 3) := by decide +kernel
theorem dX6_load_98 : decode cX6_load 98 = .ok (.bipush 24, 2) := by decide +kernel
theorem dX6_load_100 : decode cX6_load 100 = .ok (.iload_n 2, 1) := by decide +kernel
theorem dX6_load_101 : decode cX6_load 101 = .ok (.iadd, 1) := by decide +kernel
theorem dX6_load_102 : decode cX6_load 102 = .ok (.iaload, 1) := by decide +kernel
theorem dX6_load_103 : decode cX6_load 103 = .ok (.iastore, 1) := by decide +kernel
theorem dX6_load_104 : decode cX6_load 104 = .ok (.aload_n 0, 1) := by decide +kernel
theorem dX6_load_105 : decode cX6_load 105 = .ok (.getfield 13, 3) := by decide +kernel
theorem dX6_load_108 : decode cX6_load 108 = .ok (.aload_n 0, 1) := by decide +kernel
theorem dX6_load_109 : decode cX6_load 109 = .ok (.getfield 13, 3) := by decide +kernel
theorem dX6_load_112 : decode cX6_load 112 = .ok (.bipush 24, 2) := by decide +kernel
theorem dX6_load_114 : decode cX6_load 114 = .ok (.iload_n 2, 1) := by decide +kernel
theorem dX6_load_115 : decode cX6_load 115 = .ok (.iadd, 1) := by decide +kernel
theorem dX6_load_116 : decode cX6_load 116 = .ok (.iaload, 1) := by decide +kernel
theorem dX6_load_117 : decode cX6_load 117 = .ok (.invokestatic 134, 3) := by decide +kernel
theorem dX6_load_120 : decode cX6_load 120 = .ok (.ifCond .ne 6, 3) := by decide +kernel
theorem dX6_load_123 : decode cX6_load 123 = .ok (.bipush (-4), 2) := by decide +kernel
theorem dX6_load_125 : decode cX6_load 125 = .ok (.ireturn, 1) := by decide +kernel
theorem dX6_load_126 : decode cX6_load 126 = .ok (.iinc 2 1, 3) := by decide +kernel
theorem dX6_load_129 : decode cX6_load 129 = .ok (.goto (-62), 3) := by decide +kernel
theorem dX6_load_132 : decode cX6_load 132 = .ok (.aload_n 0, 1) := by decide +kernel
theorem dX6_load_133 : decode cX6_load 133 = .ok (.aload_n 0, 1) := by decide +kernel
theorem dX6_load_134 : decode cX6_load 134 = .ok (.aload_n 0, 1) := by decide +kernel
theorem dX6_load_135 : decode cX6_load 135 = .ok (.getfield 13, 3) := by decide +kernel
theorem dX6_load_138 : decode cX6_load 138 = .ok (.iconst 0, 1) := by decide +kernel
theorem dX6_load_139 : decode cX6_load 139 = .ok (.invokevirtual 137, 3) := by decide +kernel
theorem dX6_load_142 : decode cX6_load 142 = .ok (.invokevirtual 147, 3) := by decide +kernel
theorem dX6_load_145 : decode cX6_load 145 = .ok (.istore_n 2, 1) := by decide +kernel
theorem dX6_load_146 : decode cX6_load 146 = .ok (.iload_n 2, 1) := by decide +kernel
theorem dX6_load_147 : decode cX6_load 147 = .ok (.ifCond .ge 7, 3) := by decide +kernel
theorem dX6_load_150 : decode cX6_load 150 = .ok (.iload_n 2, 1) := by decide +kernel
theorem dX6_load_151 : decode cX6_load 151 = .ok (.goto 10, 3) := by decide +kernel
theorem dX6_load_154 : decode cX6_load 154 = .ok (.aload_n 0, 1) := by decide +kernel
theorem dX6_load_155 : decode cX6_load 155 = .ok (.getfield 7, 3) := by decide +kernel
theorem dX6_load_158 : decode cX6_load 158 = .ok (.invokestatic 122, 3) := by decide +kernel
theorem dX6_load_161 : decode cX6_load 161 = .ok (.ireturn, 1) := by decide +kernel
set_option maxRecDepth 20000 in
theorem ggX6_undo_X6_lays : GoodIn wsX6_undo wsX6_lays := goodIn_r _ [7] (by decide +kernel) (by decide +kernel)
set_option maxRecDepth 20000 in
theorem gX6_undo_X6_lays : GoodIn wsX6_undo (va_wsS RX6 49 yX6_lays wsX6_lays) := goodIn_app (goodIn_of _ (by decide +kernel)) ggX6_undo_X6_lays
theorem dX6_undo_0 : decode cX6_undo 0 = .ok (.aload_n 0, 1) := by decide +kernel
theorem dX6_undo_1 : decode cX6_undo 1 = .ok (.getfield 45, 3) := by decide +kernel
theorem dX6_undo_4 : decode cX6_undo 4 = .ok (.ifCond .ne 6, 3) := by decide +kernel
theorem dX6_undo_7 : decode cX6_undo 7 = .ok (.bipush (-5), 2) := by decide +kernel
theorem dX6_undo_9 : decode cX6_undo 9 = .ok (.ireturn, 1) := by decide +kernel
theorem dX6_undo_10 : decode cX6_undo 10 = .ok (.aload_n 0, 1) := by decide +kernel
theorem dX6_undo_11 : decode cX6_undo 11 = .ok (.dup, 1) := by decide +kernel
theorem dX6_undo_12 : decode cX6_undo 12 = .ok (.getfield 45, 3) := by decide +kernel
theorem dX6_undo_15 : decode cX6_undo 15 = .ok (.iconst 1, 1) := by decide +kernel
theorem dX6_undo_16 : decode cX6_undo 16 = .ok (.isub, 1) := by decide +kernel
theorem dX6_undo_17 : decode cX6_undo 17 = .ok (.putfield 45, 3) := by decide +kernel
theorem dX6_undo_20 : decode cX6_undo 20 = .ok (.aload_n 0, 1) := by decide +kernel
theorem dX6_undo_21 : decode cX6_undo 21 = .ok (.getfield 16, 3) := by decide +kernel
theorem dX6_undo_24 : decode cX6_undo 24 = .ok (.sipush 1898, 3) := by decide +kernel
theorem dX6_undo_27 : decode cX6_undo 27 = .ok (.aload_n 0, 1) := by decide +kernel
theorem dX6_undo_28 : decode cX6_undo 28 = .ok (.getfield 45, 3) := by decide +kernel
theorem dX6_undo_31 : decode cX6_undo 31 = .ok (.imul, 1) := by decide +kernel
theorem dX6_undo_32 : decode cX6_undo 32 = .ok (.aload_n 0, 1) := by decide +kernel
theorem dX6_undo_33 : decode cX6_undo 33 = .ok (.getfield 7, 3) := by decide +kernel
theorem dX6_undo_36 : decode cX6_undo 36 = .ok (.iconst 0, 1) := by decide +kernel
theorem dX6_undo_37 : decode cX6_undo 37 = .ok (.invokestatic 49, 3) := by decide +kernel
theorem dX6_undo_40 : decode cX6_undo 40 = .ok (.aload_n 0, 1) := by decide +kernel
theorem dX6_undo_41 : decode cX6_undo 41 = .ok (.getfield 45, 3) := by decide +kernel
theorem dX6_undo_44 : decode cX6_undo 44 = .ok (.ireturn, 1) := by decide +kernel
set_option maxRecDepth 20000 in
theorem ggX6_keep_X6_lays : GoodIn wsX6_keep wsX6_lays := goodIn_r _ [7] (by decide +kernel) (by decide +kernel)
set_option maxRecDepth 20000 in
theorem gX6_keep_X6_lays : GoodIn wsX6_keep (va_wsS RX6 49 yX6_lays wsX6_lays) := goodIn_app (goodIn_of _ (by decide +kernel)) ggX6_keep_X6_lays
set_option maxRecDepth 20000 in
theorem ggX6_keep_X6_cells : GoodIn wsX6_keep wsX6_cells := goodIn_r _ [10, 11, 12, 6, 13, 14, 15, 16, 17, 18, 19] (by decide +kernel) (by decide +kernel)
set_option maxRecDepth 20000 in
theorem gX6_keep_X6_cells : GoodIn wsX6_keep (va_wsS RX6 122 yX6_cells wsX6_cells) := goodIn_app (goodIn_of _ (by decide +kernel)) ggX6_keep_X6_cells
theorem dX6_keep_0 : decode cX6_keep 0 = .ok (.aload_n 0, 1) := by decide +kernel
theorem dX6_keep_1 : decode cX6_keep 1 = .ok (.getfield 7, 3) := by decide +kernel
theorem dX6_keep_4 : decode cX6_keep 4 = .ok (.iconst 0, 1) := by decide +kernel
theorem dX6_keep_5 : decode cX6_keep 5 = .ok (.aload_n 0, 1) := by decide +kernel
theorem dX6_keep_6 : decode cX6_keep 6 = .ok (.getfield 19, 3) := by decide +kernel
theorem dX6_keep_9 : decode cX6_keep 9 = .ok (.iconst 0, 1) := by decide +kernel
theorem dX6_keep_10 : decode cX6_keep 10 = .ok (.invokestatic 49, 3) := by decide +kernel
theorem dX6_keep_13 : decode cX6_keep 13 = .ok (.aload_n 0, 1) := by decide +kernel
theorem dX6_keep_14 : decode cX6_keep 14 = .ok (.iconst 1, 1) := by decide +kernel
theorem dX6_keep_15 : decode cX6_keep 15 = .ok (.putfield 191, 3) := by decide +kernel
theorem dX6_keep_18 : decode cX6_keep 18 = .ok (.aload_n 0, 1) := by decide +kernel
theorem dX6_keep_19 : decode cX6_keep 19 = .ok (.getfield 7, 3) := by decide +kernel
theorem dX6_keep_22 : decode cX6_keep 22 = .ok (.invokestatic 122, 3) := by decide +kernel
theorem dX6_keep_25 : decode cX6_keep 25 = .ok (.ireturn, 1) := by decide +kernel
set_option maxRecDepth 20000 in
theorem ggX6_restore_X6_records : GoodIn wsX6_restore wsX6_records := goodIn_r _ [8, 9, 10, 3, 11, 12, 7, 13, 26, 27, 28, 29, 30, 31, 32, 33, 34, 35, 36, 37, 38, 39, 40, 41] (by decide +kernel) (by decide +kernel)
set_option maxRecDepth 20000 in
theorem gX6_restore_X6_records : GoodIn wsX6_restore (wsV RX6 119 RX6 yX6_records wsX6_records) := goodIn_app (goodIn_of _ (by decide +kernel)) ggX6_restore_X6_records
set_option maxRecDepth 20000 in
theorem ggX6_restore_X6_lays : GoodIn wsX6_restore wsX6_lays := goodIn_r _ [13] (by decide +kernel) (by decide +kernel)
set_option maxRecDepth 20000 in
theorem gX6_restore_X6_lays : GoodIn wsX6_restore (va_wsS RX6 49 yX6_lays wsX6_lays) := goodIn_app (goodIn_of _ (by decide +kernel)) ggX6_restore_X6_lays
set_option maxRecDepth 20000 in
theorem ggX6_restore_X6_cells : GoodIn wsX6_restore wsX6_cells := goodIn_r _ [16, 17, 18, 7, 19, 20, 21, 22, 23, 24, 25] (by decide +kernel) (by decide +kernel)
set_option maxRecDepth 20000 in
theorem gX6_restore_X6_cells : GoodIn wsX6_restore (va_wsS RX6 122 yX6_cells wsX6_cells) := goodIn_app (goodIn_of _ (by decide +kernel)) ggX6_restore_X6_cells
theorem dX6_restore_0 : decode cX6_restore 0 = .ok (.aload_n 0, 1) := by decide +kernel
theorem dX6_restore_1 : decode cX6_restore 1 = .ok (.getfield 191, 3) := by decide +kernel
theorem dX6_restore_4 : decode cX6_restore 4 = .ok (.ifCond .ne 6, 3) := by decide +kernel
theorem dX6_restore_7 : decode cX6_restore 7 = .ok (.bipush (-5), 2) := by decide +kernel
theorem dX6_restore_9 : decode cX6_restore 9 = .ok (.ireturn, 1) := by decide +kernel
theorem dX6_restore_10 : decode cX6_restore 10 = .ok (.aload_n 0, 1) := by decide +kernel
theorem dX6_restore_11 : decode cX6_restore 11 = .ok (.invokevirtual 119, 3) := by decide +kernel
theorem dX6_restore_14 : decode cX6_restore 14 = .ok (.aload_n 0, 1) := by decide +kernel
theorem dX6_restore_15 : decode cX6_restore 15 = .ok (.getfield 19, 3) := by decide +kernel
theorem dX6_restore_18 : decode cX6_restore 18 = .ok (.iconst 0, 1) := by decide +kernel
theorem dX6_restore_19 : decode cX6_restore 19 = .ok (.aload_n 0, 1) := by decide +kernel
theorem dX6_restore_20 : decode cX6_restore 20 = .ok (.getfield 7, 3) := by decide +kernel
theorem dX6_restore_23 : decode cX6_restore 23 = .ok (.iconst 0, 1) := by decide +kernel
theorem dX6_restore_24 : decode cX6_restore 24 = .ok (.invokestatic 49, 3) := by decide +kernel
theorem dX6_restore_27 : decode cX6_restore 27 = .ok (.aload_n 0, 1) := by decide +kernel
theorem dX6_restore_28 : decode cX6_restore 28 = .ok (.getfield 7, 3) := by decide +kernel
theorem dX6_restore_31 : decode cX6_restore 31 = .ok (.invokestatic 122, 3) := by decide +kernel
theorem dX6_restore_34 : decode cX6_restore 34 = .ok (.ireturn, 1) := by decide +kernel
theorem dX6_under_0 : decode cX6_under 0 = .ok (.iconst 0, 1) := by decide +kernel
theorem dX6_under_1 : decode cX6_under 1 = .ok (.istore_n 2, 1) := by decide +kernel
theorem dX6_under_2 : decode cX6_under 2 = .ok (.iconst 0, 1) := by decide +kernel
theorem dX6_under_3 : decode cX6_under 3 = .ok (.istore_n 3, 1) := by decide +kernel
theorem dX6_under_4 : decode cX6_under 4 = .ok (.iload_n 3, 1) := by decide +kernel
theorem dX6_under_5 : decode cX6_under 5 = .ok (.iconst 3, 1) := by decide +kernel
theorem dX6_under_6 : decode cX6_under 6 = .ok (.if_icmp .ge 77, 3) := by decide +kernel
theorem dX6_under_9 : decode cX6_under 9 = .ok (.aload_n 0, 1) := by decide +kernel
theorem dX6_under_10 : decode cX6_under 10 = .ok (.getfield 7, 3) := by decide +kernel
theorem dX6_under_13 : decode cX6_under 13 = .ok (.bipush 24, 2) := by decide +kernel
theorem dX6_under_15 : decode cX6_under 15 = .ok (.iconst 3, 1) := by decide +kernel
theorem dX6_under_16 : decode cX6_under 16 = .ok (.iload_n 1, 1) := by decide +kernel
theorem dX6_under_17 : decode cX6_under 17 = .ok (.imul, 1) := by decide +kernel
theorem dX6_under_18 : decode cX6_under 18 = .ok (.iadd, 1) := by decide +kernel
theorem dX6_under_19 : decode cX6_under 19 = .ok (.iload_n 3, 1) := by decide +kernel
theorem dX6_under_20 : decode cX6_under 20 = .ok (.iadd, 1) := by decide +kernel
theorem dX6_under_21 : decode cX6_under 21 = .ok (.iaload, 1) := by decide +kernel
theorem dX6_under_22 : decode cX6_under 22 = .ok (.istore 4, 2) := by decide +kernel
theorem dX6_under_24 : decode cX6_under 24 = .ok (.iload 4, 2) := by decide +kernel
theorem dX6_under_26 : decode cX6_under 26 = .ok (.bipush 24, 2) := by decide +kernel
theorem dX6_under_28 : decode cX6_under 28 = .ok (.if_icmp .ge 49, 3) := by decide +kernel
theorem dX6_under_31 : decode cX6_under 31 = .ok (.iload_n 2, 1) := by decide +kernel
theorem dX6_under_32 : decode cX6_under 32 = .ok (.bipush (-5), 2) := by decide +kernel
theorem dX6_under_34 : decode cX6_under 34 = .ok (.if_icmp .eq 43, 3) := by decide +kernel
theorem dX6_under_37 : decode cX6_under 37 = .ok (.aload_n 0, 1) := by decide +kernel
theorem dX6_under_38 : decode cX6_under 38 = .ok (.getfield 39, 3) := by decide +kernel
theorem dX6_under_41 : decode cX6_under 41 = .ok (.iload 4, 2) := by decide +kernel
theorem dX6_under_43 : decode cX6_under 43 = .ok (.iaload, 1) := by decide +kernel
theorem dX6_under_44 : decode cX6_under 44 = .ok (.bipush (-5), 2) := by decide +kernel
theorem dX6_under_46 : decode cX6_under 46 = .ok (.if_icmp .ne 8, 3) := by decide +kernel
theorem dX6_under_49 : decode cX6_under 49 = .ok (.bipush (-5), 2) := by decide +kernel
theorem dX6_under_51 : decode cX6_under 51 = .ok (.goto 25, 3) := by decide +kernel
theorem dX6_under_54 : decode cX6_under 54 = .ok (.aload_n 0, 1) := by decide +kernel
theorem dX6_under_55 : decode cX6_under 55 = .ok (.getfield 39, 3) := by decide +kernel
theorem dX6_under_58 : decode cX6_under 58 = .ok (.iload 4, 2) := by decide +kernel
theorem dX6_under_60 : decode cX6_under 60 = .ok (.iaload, 1) := by decide +kernel
theorem dX6_under_61 : decode cX6_under 61 = .ok (.iload_n 2, 1) := by decide +kernel
theorem dX6_under_62 : decode cX6_under 62 = .ok (.if_icmp .le 13, 3) := by decide +kernel
theorem dX6_under_65 : decode cX6_under 65 = .ok (.aload_n 0, 1) := by decide +kernel
theorem dX6_under_66 : decode cX6_under 66 = .ok (.getfield 39, 3) := by decide +kernel
theorem dX6_under_69 : decode cX6_under 69 = .ok (.iload 4, 2) := by decide +kernel
theorem dX6_under_71 : decode cX6_under 71 = .ok (.iaload, 1) := by decide +kernel
theorem dX6_under_72 : decode cX6_under 72 = .ok (.goto 4, 3) := by decide +kernel
theorem dX6_under_75 : decode cX6_under 75 = .ok (.iload_n 2, 1) := by decide +kernel
theorem dX6_under_76 : decode cX6_under 76 = .ok (.istore_n 2, 1) := by decide +kernel
theorem dX6_under_77 : decode cX6_under 77 = .ok (.iinc 3 1, 3) := by decide +kernel
theorem dX6_under_80 : decode cX6_under 80 = .ok (.goto (-76), 3) := by decide +kernel
theorem dX6_under_83 : decode cX6_under 83 = .ok (.iload_n 2, 1) := by decide +kernel
theorem dX6_under_84 : decode cX6_under 84 = .ok (.ireturn, 1) := by decide +kernel
theorem dX6_bitOf_0 : decode cX6_bitOf 0 = .ok (.iload_n 1, 1) := by decide +kernel
theorem dX6_bitOf_1 : decode cX6_bitOf 1 = .ok (.bipush 24, 2) := by decide +kernel
theorem dX6_bitOf_3 : decode cX6_bitOf 3 = .ok (.if_icmp .ge 12, 3) := by decide +kernel
end
section
theorem dX6_bitOf_6 : decode cX6_bitOf 6 = .ok (.aload_n 0, 1) := by decide +kernel
theorem dX6_bitOf_7 : decode cX6_bitOf 7 = .ok (.getfield 42, 3) := by decide +kernel
theorem dX6_bitOf_10 : decode cX6_bitOf 10 = .ok (.iload_n 1, 1) := by decide +kernel
theorem dX6_bitOf_11 : decode cX6_bitOf 11 = .ok (.iaload, 1) := by decide +kernel
theorem dX6_bitOf_12 : decode cX6_bitOf 12 = .ok (.goto 24, 3) := by decide +kernel
theorem dX6_bitOf_15 : decode cX6_bitOf 15 = .ok (.iload_n 1, 1) := by decide +kernel
theorem dX6_bitOf_16 : decode cX6_bitOf 16 = .ok (.bipush 32, 2) := by decide +kernel
theorem dX6_bitOf_18 : decode cX6_bitOf 18 = .ok (.if_icmp .ge 14, 3) := by decide +kernel
theorem dX6_bitOf_21 : decode cX6_bitOf 21 = .ok (.iload_n 2, 1) := by decide +kernel
theorem dX6_bitOf_22 : decode cX6_bitOf 22 = .ok (.iload_n 1, 1) := by decide +kernel
theorem dX6_bitOf_23 : decode cX6_bitOf 23 = .ok (.bipush 24, 2) := by decide +kernel
theorem dX6_bitOf_25 : decode cX6_bitOf 25 = .ok (.isub, 1) := by decide +kernel
theorem dX6_bitOf_26 : decode cX6_bitOf 26 = .ok (.ishr, 1) := by decide +kernel
theorem dX6_bitOf_27 : decode cX6_bitOf 27 = .ok (.iconst 1, 1) := by decide +kernel
theorem dX6_bitOf_28 : decode cX6_bitOf 28 = .ok (.iand, 1) := by decide +kernel
theorem dX6_bitOf_29 : decode cX6_bitOf 29 = .ok (.goto 7, 3) := by decide +kernel
theorem dX6_bitOf_32 : decode cX6_bitOf 32 = .ok (.iload_n 1, 1) := by decide +kernel
theorem dX6_bitOf_33 : decode cX6_bitOf 33 = .ok (.bipush 32, 2) := by decide +kernel
theorem dX6_bitOf_35 : decode cX6_bitOf 35 = .ok (.isub, 1) := by decide +kernel
theorem dX6_bitOf_36 : decode cX6_bitOf 36 = .ok (.ireturn, 1) := by decide +kernel
set_option maxRecDepth 20000 in
theorem ggX6_lookedUp_X6_bitOf : GoodIn wsX6_lookedUp wsX6_bitOf := goodIn_r _ [6, 7, 8, 9, 10, 11, 12, 13, 14, 15, 16, 17, 18, 19, 20, 21, 22, 23] (by decide +kernel) (by decide +kernel)
set_option maxRecDepth 20000 in
theorem gX6_lookedUp_X6_bitOf : GoodIn wsX6_lookedUp (wsV RX6 195 RX6 yX6_bitOf wsX6_bitOf) := goodIn_app (goodIn_of _ (by decide +kernel)) ggX6_lookedUp_X6_bitOf
theorem dX6_lookedUp_0 : decode cX6_lookedUp 0 = .ok (.iconst 0, 1) := by decide +kernel
theorem dX6_lookedUp_1 : decode cX6_lookedUp 1 = .ok (.istore_n 3, 1) := by decide +kernel
theorem dX6_lookedUp_2 : decode cX6_lookedUp 2 = .ok (.iconst 0, 1) := by decide +kernel
theorem dX6_lookedUp_3 : decode cX6_lookedUp 3 = .ok (.istore 4, 2) := by decide +kernel
theorem dX6_lookedUp_5 : decode cX6_lookedUp 5 = .ok (.iload 4, 2) := by decide +kernel
theorem dX6_lookedUp_7 : decode cX6_lookedUp 7 = .ok (.iconst 3, 1) := by decide +kernel
theorem dX6_lookedUp_8 : decode cX6_lookedUp 8 = .ok (.if_icmp .ge 34, 3) := by decide +kernel
theorem dX6_lookedUp_11 : decode cX6_lookedUp 11 = .ok (.iload_n 3, 1) := by decide +kernel
theorem dX6_lookedUp_12 : decode cX6_lookedUp 12 = .ok (.aload_n 0, 1) := by decide +kernel
theorem dX6_lookedUp_13 : decode cX6_lookedUp 13 = .ok (.aload_n 0, 1) := by decide +kernel
theorem dX6_lookedUp_14 : decode cX6_lookedUp 14 = .ok (.getfield 7, 3) := by decide +kernel
theorem dX6_lookedUp_17 : decode cX6_lookedUp 17 = .ok (.bipush 24, 2) := by decide +kernel
theorem dX6_lookedUp_19 : decode cX6_lookedUp 19 = .ok (.iconst 3, 1) := by decide +kernel
theorem dX6_lookedUp_20 : decode cX6_lookedUp 20 = .ok (.iload_n 1, 1) := by decide +kernel
theorem dX6_lookedUp_21 : decode cX6_lookedUp 21 = .ok (.imul, 1) := by decide +kernel
theorem dX6_lookedUp_22 : decode cX6_lookedUp 22 = .ok (.iadd, 1) := by decide +kernel
theorem dX6_lookedUp_23 : decode cX6_lookedUp 23 = .ok (.iload 4, 2) := by decide +kernel
theorem dX6_lookedUp_25 : decode cX6_lookedUp 25 = .ok (.iadd, 1) := by decide +kernel
theorem dX6_lookedUp_26 : decode cX6_lookedUp 26 = .ok (.iaload, 1) := by decide +kernel
theorem dX6_lookedUp_27 : decode cX6_lookedUp 27 = .ok (.iload_n 2, 1) := by decide +kernel
theorem dX6_lookedUp_28 : decode cX6_lookedUp 28 = .ok (.invokevirtual 195, 3) := by decide +kernel
theorem dX6_lookedUp_31 : decode cX6_lookedUp 31 = .ok (.iload 4, 2) := by decide +kernel
theorem dX6_lookedUp_33 : decode cX6_lookedUp 33 = .ok (.ishl, 1) := by decide +kernel
theorem dX6_lookedUp_34 : decode cX6_lookedUp 34 = .ok (.ior, 1) := by decide +kernel
theorem dX6_lookedUp_35 : decode cX6_lookedUp 35 = .ok (.istore_n 3, 1) := by decide +kernel
theorem dX6_lookedUp_36 : decode cX6_lookedUp 36 = .ok (.iinc 4 1, 3) := by decide +kernel
theorem dX6_lookedUp_39 : decode cX6_lookedUp 39 = .ok (.goto (-34), 3) := by decide +kernel
theorem dX6_lookedUp_42 : decode cX6_lookedUp 42 = .ok (.aload_n 0, 1) := by decide +kernel
theorem dX6_lookedUp_43 : decode cX6_lookedUp 43 = .ok (.getfield 7, 3) := by decide +kernel
theorem dX6_lookedUp_46 : decode cX6_lookedUp 46 = .ok (.iconst 0, 1) := by decide +kernel
theorem dX6_lookedUp_47 : decode cX6_lookedUp 47 = .ok (.iload_n 1, 1) := by decide +kernel
theorem dX6_lookedUp_48 : decode cX6_lookedUp 48 = .ok (.iadd, 1) := by decide +kernel
theorem dX6_lookedUp_49 : decode cX6_lookedUp 49 = .ok (.iaload, 1) := by decide +kernel
theorem dX6_lookedUp_50 : decode cX6_lookedUp 50 = .ok (.iload_n 3, 1) := by decide +kernel
theorem dX6_lookedUp_51 : decode cX6_lookedUp 51 = .ok (.ishr, 1) := by decide +kernel
theorem dX6_lookedUp_52 : decode cX6_lookedUp 52 = .ok (.iconst 1, 1) := by decide +kernel
theorem dX6_lookedUp_53 : decode cX6_lookedUp 53 = .ok (.iand, 1) := by decide +kernel
theorem dX6_lookedUp_54 : decode cX6_lookedUp 54 = .ok (.ireturn, 1) := by decide +kernel
set_option maxRecDepth 20000 in
theorem ggX6_answers_X6_isCell : GoodIn wsX6_answers wsX6_isCell := goodIn_r _ [7, 8, 9, 6, 10, 11, 12, 13] (by decide +kernel) (by decide +kernel)
set_option maxRecDepth 20000 in
theorem gX6_answers_X6_isCell : GoodIn wsX6_answers (va_wsS RX6 61 yX6_isCell wsX6_isCell) := goodIn_app (goodIn_of _ (by decide +kernel)) ggX6_answers_X6_isCell
set_option maxRecDepth 20000 in
theorem ggX6_answers_X6_under : GoodIn wsX6_answers wsX6_under := goodIn_r _ [17, 3, 1, 26, 27, 28, 29, 30, 31, 32, 33, 34, 35, 36, 37, 38, 39, 40, 41] (by decide +kernel) (by decide +kernel)
set_option maxRecDepth 20000 in
theorem gX6_answers_X6_under : GoodIn wsX6_answers (wsV RX6 198 RX6 yX6_under wsX6_under) := goodIn_app (goodIn_of _ (by decide +kernel)) ggX6_answers_X6_under
set_option maxRecDepth 20000 in
theorem ggX6_answers_X6_lookedUp : GoodIn wsX6_answers wsX6_lookedUp := goodIn_r _ [21, 3, 22, 23, 24, 6, 25, 2, 26, 27, 28, 29, 30, 31, 32, 33, 34, 35, 36, 37, 38, 39, 40, 41] (by decide +kernel) (by decide +kernel)
set_option maxRecDepth 20000 in
theorem gX6_answers_X6_lookedUp : GoodIn wsX6_answers (wsV RX6 201 RX6 yX6_lookedUp wsX6_lookedUp) := goodIn_app (goodIn_of _ (by decide +kernel)) ggX6_answers_X6_lookedUp
theorem dX6_answers_0 : decode cX6_answers 0 = .ok (.iconst 0, 1) := by decide +kernel
theorem dX6_answers_1 : decode cX6_answers 1 = .ok (.istore_n 2, 1) := by decide +kernel
theorem dX6_answers_2 : decode cX6_answers 2 = .ok (.iload_n 2, 1) := by decide +kernel
theorem dX6_answers_3 : decode cX6_answers 3 = .ok (.bipush 24, 2) := by decide +kernel
theorem dX6_answers_5 : decode cX6_answers 5 = .ok (.if_icmp .ge 24, 3) := by decide +kernel
theorem dX6_answers_8 : decode cX6_answers 8 = .ok (.aload_n 0, 1) := by decide +kernel
theorem dX6_answers_9 : decode cX6_answers 9 = .ok (.getfield 39, 3) := by decide +kernel
theorem dX6_answers_12 : decode cX6_answers 12 = .ok (.iload_n 2, 1) := by decide +kernel
theorem dX6_answers_13 : decode cX6_answers 13 = .ok (.bipush (-5), 2) := by decide +kernel
theorem dX6_answers_15 : decode cX6_answers 15 = .ok (.iastore, 1) := by decide +kernel
theorem dX6_answers_16 : decode cX6_answers 16 = .ok (.aload_n 0, 1) := by decide +kernel
theorem dX6_answers_17 : decode cX6_answers 17 = .ok (.getfield 42, 3) := by decide +kernel
theorem dX6_answers_20 : decode cX6_answers 20 = .ok (.iload_n 2, 1) := by decide +kernel
theorem dX6_answers_21 : decode cX6_answers 21 = .ok (.iconst 0, 1) := by decide +kernel
theorem dX6_answers_22 : decode cX6_answers 22 = .ok (.iastore, 1) := by decide +kernel
theorem dX6_answers_23 : decode cX6_answers 23 = .ok (.iinc 2 1, 3) := by decide +kernel
theorem dX6_answers_26 : decode cX6_answers 26 = .ok (.goto (-24), 3) := by decide +kernel
theorem dX6_answers_29 : decode cX6_answers 29 = .ok (.iconst 1, 1) := by decide +kernel
theorem dX6_answers_30 : decode cX6_answers 30 = .ok (.istore_n 2, 1) := by decide +kernel
theorem dX6_answers_31 : decode cX6_answers 31 = .ok (.iload_n 2, 1) := by decide +kernel
theorem dX6_answers_32 : decode cX6_answers 32 = .ok (.ifCond .eq 81, 3) := by decide +kernel
theorem dX6_answers_35 : decode cX6_answers 35 = .ok (.iconst 0, 1) := by decide +kernel
theorem dX6_answers_36 : decode cX6_answers 36 = .ok (.istore_n 2, 1) := by decide +kernel
theorem dX6_answers_37 : decode cX6_answers 37 = .ok (.iconst 0, 1) := by decide +kernel
theorem dX6_answers_38 : decode cX6_answers 38 = .ok (.istore_n 3, 1) := by decide +kernel
theorem dX6_answers_39 : decode cX6_answers 39 = .ok (.iload_n 3, 1) := by decide +kernel
theorem dX6_answers_40 : decode cX6_answers 40 = .ok (.bipush 24, 2) := by decide +kernel
theorem dX6_answers_42 : decode cX6_answers 42 = .ok (.if_icmp .ge 68, 3) := by decide +kernel
theorem dX6_answers_45 : decode cX6_answers 45 = .ok (.aload_n 0, 1) := by decide +kernel
theorem dX6_answers_46 : decode cX6_answers 46 = .ok (.getfield 7, 3) := by decide +kernel
theorem dX6_answers_49 : decode cX6_answers 49 = .ok (.iload_n 3, 1) := by decide +kernel
theorem dX6_answers_50 : decode cX6_answers 50 = .ok (.invokestatic 61, 3) := by decide +kernel
theorem dX6_answers_53 : decode cX6_answers 53 = .ok (.ifCond .eq 51, 3) := by decide +kernel
theorem dX6_answers_56 : decode cX6_answers 56 = .ok (.aload_n 0, 1) := by decide +kernel
theorem dX6_answers_57 : decode cX6_answers 57 = .ok (.getfield 39, 3) := by decide +kernel
theorem dX6_answers_60 : decode cX6_answers 60 = .ok (.iload_n 3, 1) := by decide +kernel
theorem dX6_answers_61 : decode cX6_answers 61 = .ok (.iaload, 1) := by decide +kernel
theorem dX6_answers_62 : decode cX6_answers 62 = .ok (.bipush (-5), 2) := by decide +kernel
theorem dX6_answers_64 : decode cX6_answers 64 = .ok (.if_icmp .ne 40, 3) := by decide +kernel
theorem dX6_answers_67 : decode cX6_answers 67 = .ok (.aload_n 0, 1) := by decide +kernel
theorem dX6_answers_68 : decode cX6_answers 68 = .ok (.iload_n 3, 1) := by decide +kernel
theorem dX6_answers_69 : decode cX6_answers 69 = .ok (.invokevirtual 198, 3) := by decide +kernel
theorem dX6_answers_72 : decode cX6_answers 72 = .ok (.bipush (-5), 2) := by decide +kernel
theorem dX6_answers_74 : decode cX6_answers 74 = .ok (.if_icmp .eq 30, 3) := by decide +kernel
theorem dX6_answers_77 : decode cX6_answers 77 = .ok (.aload_n 0, 1) := by decide +kernel
theorem dX6_answers_78 : decode cX6_answers 78 = .ok (.getfield 39, 3) := by decide +kernel
theorem dX6_answers_81 : decode cX6_answers 81 = .ok (.iload_n 3, 1) := by decide +kernel
theorem dX6_answers_82 : decode cX6_answers 82 = .ok (.aload_n 0, 1) := by decide +kernel
theorem dX6_answers_83 : decode cX6_answers 83 = .ok (.iload_n 3, 1) := by decide +kernel
theorem dX6_answers_84 : decode cX6_answers 84 = .ok (.invokevirtual 198, 3) := by decide +kernel
theorem dX6_answers_87 : decode cX6_answers 87 = .ok (.iconst 1, 1) := by decide +kernel
theorem dX6_answers_88 : decode cX6_answers 88 = .ok (.iadd, 1) := by decide +kernel
theorem dX6_answers_89 : decode cX6_answers 89 = .ok (.iastore, 1) := by decide +kernel
theorem dX6_answers_90 : decode cX6_answers 90 = .ok (.aload_n 0, 1) := by decide +kernel
theorem dX6_answers_91 : decode cX6_answers 91 = .ok (.getfield 42, 3) := by decide +kernel
theorem dX6_answers_94 : decode cX6_answers 94 = .ok (.iload_n 3, 1) := by decide +kernel
theorem dX6_answers_95 : decode cX6_answers 95 = .ok (.aload_n 0, 1) := by decide +kernel
theorem dX6_answers_96 : decode cX6_answers 96 = .ok (.iload_n 3, 1) := by decide +kernel
theorem dX6_answers_97 : decode cX6_answers 97 = .ok (.iload_n 1, 1) := by decide +kernel
theorem dX6_answers_98 : decode cX6_answers 98 = .ok (.invokevirtual 201, 3) := by decide +kernel
theorem dX6_answers_101 : decode cX6_answers 101 = .ok (.iastore, 1) := by decide +kernel
theorem dX6_answers_102 : decode cX6_answers 102 = .ok (.iconst 1, 1) := by decide +kernel
theorem dX6_answers_103 : decode cX6_answers 103 = .ok (.istore_n 2, 1) := by decide +kernel
theorem dX6_answers_104 : decode cX6_answers 104 = .ok (.iinc 3 1, 3) := by decide +kernel
theorem dX6_answers_107 : decode cX6_answers 107 = .ok (.goto (-68), 3) := by decide +kernel
theorem dX6_answers_110 : decode cX6_answers 110 = .ok (.goto (-79), 3) := by decide +kernel
theorem dX6_answers_113 : decode cX6_answers 113 = .ok (.return_, 1) := by decide +kernel
theorem dX6_ofWires_0 : decode cX6_ofWires 0 = .ok (.iconst 0, 1) := by decide +kernel
theorem dX6_ofWires_1 : decode cX6_ofWires 1 = .ok (.istore_n 2, 1) := by decide +kernel
theorem dX6_ofWires_2 : decode cX6_ofWires 2 = .ok (.iconst 3, 1) := by decide +kernel
theorem dX6_ofWires_3 : decode cX6_ofWires 3 = .ok (.iload_n 1, 1) := by decide +kernel
theorem dX6_ofWires_4 : decode cX6_ofWires 4 = .ok (.imul, 1) := by decide +kernel
theorem dX6_ofWires_5 : decode cX6_ofWires 5 = .ok (.istore_n 3, 1) := by decide +kernel
theorem dX6_ofWires_6 : decode cX6_ofWires 6 = .ok (.iload_n 3, 1) := by decide +kernel
theorem dX6_ofWires_7 : decode cX6_ofWires 7 = .ok (.iconst 3, 1) := by decide +kernel
theorem dX6_ofWires_8 : decode cX6_ofWires 8 = .ok (.iload_n 1, 1) := by decide +kernel
theorem dX6_ofWires_9 : decode cX6_ofWires 9 = .ok (.imul, 1) := by decide +kernel
theorem dX6_ofWires_10 : decode cX6_ofWires 10 = .ok (.iconst 3, 1) := by decide +kernel
theorem dX6_ofWires_11 : decode cX6_ofWires 11 = .ok (.iadd, 1) := by decide +kernel
theorem dX6_ofWires_12 : decode cX6_ofWires 12 = .ok (.if_icmp .ge 39, 3) := by decide +kernel
theorem dX6_ofWires_15 : decode cX6_ofWires 15 = .ok (.iload_n 2, 1) := by decide +kernel
theorem dX6_ofWires_16 : decode cX6_ofWires 16 = .ok (.aload_n 0, 1) := by decide +kernel
theorem dX6_ofWires_17 : decode cX6_ofWires 17 = .ok (.getfield 7, 3) := by decide +kernel
theorem dX6_ofWires_20 : decode cX6_ofWires 20 = .ok (.bipush 96, 2) := by decide +kernel
theorem dX6_ofWires_22 : decode cX6_ofWires 22 = .ok (.iload_n 3, 1) := by decide +kernel
theorem dX6_ofWires_23 : decode cX6_ofWires 23 = .ok (.iadd, 1) := by decide +kernel
theorem dX6_ofWires_24 : decode cX6_ofWires 24 = .ok (.iaload, 1) := by decide +kernel
theorem dX6_ofWires_25 : decode cX6_ofWires 25 = .ok (.ifCond .le 17, 3) := by decide +kernel
theorem dX6_ofWires_28 : decode cX6_ofWires 28 = .ok (.aload_n 0, 1) := by decide +kernel
theorem dX6_ofWires_29 : decode cX6_ofWires 29 = .ok (.getfield 7, 3) := by decide +kernel
theorem dX6_ofWires_32 : decode cX6_ofWires 32 = .ok (.bipush 96, 2) := by decide +kernel
theorem dX6_ofWires_34 : decode cX6_ofWires 34 = .ok (.iload_n 3, 1) := by decide +kernel
theorem dX6_ofWires_35 : decode cX6_ofWires 35 = .ok (.iadd, 1) := by decide +kernel
theorem dX6_ofWires_36 : decode cX6_ofWires 36 = .ok (.iaload, 1) := by decide +kernel
theorem dX6_ofWires_37 : decode cX6_ofWires 37 = .ok (.iconst 1, 1) := by decide +kernel
theorem dX6_ofWires_38 : decode cX6_ofWires 38 = .ok (.isub, 1) := by decide +kernel
theorem dX6_ofWires_39 : decode cX6_ofWires 39 = .ok (.goto 4, 3) := by decide +kernel
theorem dX6_ofWires_42 : decode cX6_ofWires 42 = .ok (.iconst 0, 1) := by decide +kernel
theorem dX6_ofWires_43 : decode cX6_ofWires 43 = .ok (.iadd, 1) := by decide +kernel
theorem dX6_ofWires_44 : decode cX6_ofWires 44 = .ok (.istore_n 2, 1) := by decide +kernel
theorem dX6_ofWires_45 : decode cX6_ofWires 45 = .ok (.iinc 3 1, 3) := by decide +kernel
theorem dX6_ofWires_48 : decode cX6_ofWires 48 = .ok (.goto (-42), 3) := by decide +kernel
theorem dX6_ofWires_51 : decode cX6_ofWires 51 = .ok (.iload_n 2, 1) := by decide +kernel
theorem dX6_ofWires_52 : decode cX6_ofWires 52 = .ok (.ireturn, 1) := by decide +kernel
set_option maxRecDepth 20000 in
theorem ggX6_cell_X6_isCell : GoodIn wsX6_cell wsX6_isCell := goodIn_r _ [6, 7, 8, 5, 9, 10, 11, 12] (by decide +kernel) (by decide +kernel)
set_option maxRecDepth 20000 in
theorem gX6_cell_X6_isCell : GoodIn wsX6_cell (va_wsS RX6 61 yX6_isCell wsX6_isCell) := goodIn_app (goodIn_of _ (by decide +kernel)) ggX6_cell_X6_isCell
set_option maxRecDepth 20000 in
theorem ggX6_cell_X6_answers : GoodIn wsX6_cell wsX6_answers := goodIn_r _ [16, 2, 17, 1, 3, 4, 5, 6, 7, 8, 9, 10, 11, 12, 18, 19, 20, 21, 22, 23, 24, 25, 26, 27, 28, 29, 41, 42, 43, 44, 45, 46, 47, 48, 49, 50, 51, 52, 53, 54, 55, 56] (by decide +kernel) (by decide +kernel)
set_option maxRecDepth 20000 in
theorem gX6_cell_X6_answers : GoodIn wsX6_cell (wsV RX6 204 RX6 yX6_answers wsX6_answers) := goodIn_app (goodIn_of _ (by decide +kernel)) ggX6_cell_X6_answers
set_option maxRecDepth 20000 in
theorem ggX6_cell_X6_having : GoodIn wsX6_cell wsX6_having := goodIn_r _ [33, 1, 34, 35, 5, 36, 3, 4, 6, 7, 8, 9, 10, 11, 12, 41, 42, 43, 44, 45, 46, 47, 48, 49, 50, 51, 52, 53, 54, 55, 56] (by decide +kernel) (by decide +kernel)
set_option maxRecDepth 20000 in
theorem gX6_cell_X6_having : GoodIn wsX6_cell (wsV RX6 125 RX6 yX6_having wsX6_having) := goodIn_app (goodIn_of _ (by decide +kernel)) ggX6_cell_X6_having
set_option maxRecDepth 20000 in
theorem ggX6_cell_X6_ofWires : GoodIn wsX6_cell wsX6_ofWires := goodIn_r _ [40, 1, 41, 42, 43, 44, 45, 46, 47, 48, 49, 50, 51, 52, 53, 54, 55, 56] (by decide +kernel) (by decide +kernel)
set_option maxRecDepth 20000 in
theorem gX6_cell_X6_ofWires : GoodIn wsX6_cell (wsV RX6 208 RX6 yX6_ofWires wsX6_ofWires) := goodIn_app (goodIn_of _ (by decide +kernel)) ggX6_cell_X6_ofWires
theorem dX6_cell_0 : decode cX6_cell 0 = .ok (.aload_n 0, 1) := by decide +kernel
theorem dX6_cell_1 : decode cX6_cell 1 = .ok (.getfield 7, 3) := by decide +kernel
theorem dX6_cell_4 : decode cX6_cell 4 = .ok (.iload_n 1, 1) := by decide +kernel
theorem dX6_cell_5 : decode cX6_cell 5 = .ok (.invokestatic 61, 3) := by decide +kernel
theorem dX6_cell_8 : decode cX6_cell 8 = .ok (.ifCond .ne 5, 3) := by decide +kernel
theorem dX6_cell_11 : decode cX6_cell 11 = .ok (.iconst (-1), 1) := by decide +kernel
theorem dX6_cell_12 : decode cX6_cell 12 = .ok (.ireturn, 1) := by decide +kernel
theorem dX6_cell_13 : decode cX6_cell 13 = .ok (.aload_n 0, 1) := by decide +kernel
theorem dX6_cell_14 : decode cX6_cell 14 = .ok (.iconst 0, 1) := by decide +kernel
theorem dX6_cell_15 : decode cX6_cell 15 = .ok (.invokevirtual 204, 3) := by decide +kernel
theorem dX6_cell_18 : decode cX6_cell 18 = .ok (.iload_n 2, 1) := by decide +kernel
theorem dX6_cell_19 : decode cX6_cell 19 = .ok (.tableswitch 87 0 6 #[41, 50, 50, 50, 66, 73, 81], 41) := by decide +kernel
theorem dX6_cell_60 : decode cX6_cell 60 = .ok (.aload_n 0, 1) := by decide +kernel
theorem dX6_cell_61 : decode cX6_cell 61 = .ok (.getfield 7, 3) := by decide +kernel
theorem dX6_cell_64 : decode cX6_cell 64 = .ok (.iconst 0, 1) := by decide +kernel
theorem dX6_cell_65 : decode cX6_cell 65 = .ok (.iload_n 1, 1) := by decide +kernel
theorem dX6_cell_66 : decode cX6_cell 66 = .ok (.iadd, 1) := by decide +kernel
theorem dX6_cell_67 : decode cX6_cell 67 = .ok (.iaload, 1) := by decide +kernel
theorem dX6_cell_68 : decode cX6_cell 68 = .ok (.ireturn, 1) := by decide +kernel
theorem dX6_cell_69 : decode cX6_cell 69 = .ok (.aload_n 0, 1) := by decide +kernel
theorem dX6_cell_70 : decode cX6_cell 70 = .ok (.getfield 7, 3) := by decide +kernel
theorem dX6_cell_73 : decode cX6_cell 73 = .ok (.bipush 24, 2) := by decide +kernel
theorem dX6_cell_75 : decode cX6_cell 75 = .ok (.iconst 3, 1) := by decide +kernel
theorem dX6_cell_76 : decode cX6_cell 76 = .ok (.iload_n 1, 1) := by decide +kernel
theorem dX6_cell_77 : decode cX6_cell 77 = .ok (.imul, 1) := by decide +kernel
theorem dX6_cell_78 : decode cX6_cell 78 = .ok (.iadd, 1) := by decide +kernel
theorem dX6_cell_79 : decode cX6_cell 79 = .ok (.iload_n 2, 1) := by decide +kernel
theorem dX6_cell_80 : decode cX6_cell 80 = .ok (.iadd, 1) := by decide +kernel
theorem dX6_cell_81 : decode cX6_cell 81 = .ok (.iconst 1, 1) := by decide +kernel
theorem dX6_cell_82 : decode cX6_cell 82 = .ok (.isub, 1) := by decide +kernel
theorem dX6_cell_83 : decode cX6_cell 83 = .ok (.iaload, 1) := by decide +kernel
theorem dX6_cell_84 : decode cX6_cell 84 = .ok (.ireturn, 1) := by decide +kernel
theorem dX6_cell_85 : decode cX6_cell 85 = .ok (.aload_n 0, 1) := by decide +kernel
theorem dX6_cell_86 : decode cX6_cell 86 = .ok (.getfield 39, 3) := by decide +kernel
theorem dX6_cell_89 : decode cX6_cell 89 = .ok (.iload_n 1, 1) := by decide +kernel
theorem dX6_cell_90 : decode cX6_cell 90 = .ok (.iaload, 1) := by decide +kernel
theorem dX6_cell_91 : decode cX6_cell 91 = .ok (.ireturn, 1) := by decide +kernel
theorem dX6_cell_92 : decode cX6_cell 92 = .ok (.aload_n 0, 1) := by decide +kernel
theorem dX6_cell_93 : decode cX6_cell 93 = .ok (.iload_n 1, 1) := by decide +kernel
theorem dX6_cell_94 : decode cX6_cell 94 = .ok (.bipush (-5), 2) := by decide +kernel
theorem dX6_cell_96 : decode cX6_cell 96 = .ok (.invokevirtual 125, 3) := by decide +kernel
theorem dX6_cell_99 : decode cX6_cell 99 = .ok (.ireturn, 1) := by decide +kernel
theorem dX6_cell_100 : decode cX6_cell 100 = .ok (.aload_n 0, 1) := by decide +kernel
theorem dX6_cell_101 : decode cX6_cell 101 = .ok (.iload_n 1, 1) := by decide +kernel
theorem dX6_cell_102 : decode cX6_cell 102 = .ok (.invokevirtual 208, 3) := by decide +kernel
theorem dX6_cell_105 : decode cX6_cell 105 = .ok (.ireturn, 1) := by decide +kernel
theorem dX6_cell_106 : decode cX6_cell 106 = .ok (.bipush (-2), 2) := by decide +kernel
theorem dX6_cell_108 : decode cX6_cell 108 = .ok (.ireturn, 1) := by decide +kernel
set_option maxRecDepth 20000 in
theorem ggX6_path_X6_isCell : GoodIn wsX6_path wsX6_isCell := goodIn_r _ [5, 6, 7, 4, 8, 9, 10, 11] (by decide +kernel) (by decide +kernel)
set_option maxRecDepth 20000 in
theorem gX6_path_X6_isCell : GoodIn wsX6_path (va_wsS RX6 61 yX6_isCell wsX6_isCell) := goodIn_app (goodIn_of _ (by decide +kernel)) ggX6_path_X6_isCell
set_option maxRecDepth 20000 in
theorem ggX6_path_X6_in : GoodIn wsX6_path wsX6_in := goodIn_r _ [11] (by decide +kernel) (by decide +kernel)
set_option maxRecDepth 20000 in
theorem gX6_path_X6_in : GoodIn wsX6_path (va_wsS RX6 53 yX6_in wsX6_in) := goodIn_app (goodIn_of _ (by decide +kernel)) ggX6_path_X6_in
theorem dX6_path_0 : decode cX6_path 0 = .ok (.aload_n 0, 1) := by decide +kernel
theorem dX6_path_1 : decode cX6_path 1 = .ok (.getfield 7, 3) := by decide +kernel
theorem dX6_path_4 : decode cX6_path 4 = .ok (.iload_n 1, 1) := by decide +kernel
theorem dX6_path_5 : decode cX6_path 5 = .ok (.invokestatic 61, 3) := by decide +kernel
theorem dX6_path_8 : decode cX6_path 8 = .ok (.ifCond .eq 12, 3) := by decide +kernel
theorem dX6_path_11 : decode cX6_path 11 = .ok (.iload_n 2, 1) := by decide +kernel
theorem dX6_path_12 : decode cX6_path 12 = .ok (.iconst 0, 1) := by decide +kernel
theorem dX6_path_13 : decode cX6_path 13 = .ok (.iconst 2, 1) := by decide +kernel
theorem dX6_path_14 : decode cX6_path 14 = .ok (.invokestatic 53, 3) := by decide +kernel
theorem dX6_path_17 : decode cX6_path 17 = .ok (.ifCond .ne 5, 3) := by decide +kernel
theorem dX6_path_20 : decode cX6_path 20 = .ok (.iconst (-1), 1) := by decide +kernel
theorem dX6_path_21 : decode cX6_path 21 = .ok (.ireturn, 1) := by decide +kernel
theorem dX6_path_22 : decode cX6_path 22 = .ok (.iload_n 3, 1) := by decide +kernel
theorem dX6_path_23 : decode cX6_path 23 = .ok (.ifCond .ge 6, 3) := by decide +kernel
theorem dX6_path_26 : decode cX6_path 26 = .ok (.bipush (-2), 2) := by decide +kernel
theorem dX6_path_28 : decode cX6_path 28 = .ok (.ireturn, 1) := by decide +kernel
theorem dX6_path_29 : decode cX6_path 29 = .ok (.iconst 3, 1) := by decide +kernel
theorem dX6_path_30 : decode cX6_path 30 = .ok (.iload_n 1, 1) := by decide +kernel
theorem dX6_path_31 : decode cX6_path 31 = .ok (.imul, 1) := by decide +kernel
theorem dX6_path_32 : decode cX6_path 32 = .ok (.iload_n 2, 1) := by decide +kernel
theorem dX6_path_33 : decode cX6_path 33 = .ok (.iadd, 1) := by decide +kernel
theorem dX6_path_34 : decode cX6_path 34 = .ok (.istore 4, 2) := by decide +kernel
theorem dX6_path_36 : decode cX6_path 36 = .ok (.iload_n 3, 1) := by decide +kernel
theorem dX6_path_37 : decode cX6_path 37 = .ok (.aload_n 0, 1) := by decide +kernel
theorem dX6_path_38 : decode cX6_path 38 = .ok (.getfield 7, 3) := by decide +kernel
theorem dX6_path_41 : decode cX6_path 41 = .ok (.bipush 96, 2) := by decide +kernel
theorem dX6_path_43 : decode cX6_path 43 = .ok (.iload 4, 2) := by decide +kernel
theorem dX6_path_45 : decode cX6_path 45 = .ok (.iadd, 1) := by decide +kernel
theorem dX6_path_46 : decode cX6_path 46 = .ok (.iaload, 1) := by decide +kernel
theorem dX6_path_47 : decode cX6_path 47 = .ok (.if_icmp .ge 22, 3) := by decide +kernel
theorem dX6_path_50 : decode cX6_path 50 = .ok (.aload_n 0, 1) := by decide +kernel
theorem dX6_path_51 : decode cX6_path 51 = .ok (.getfield 7, 3) := by decide +kernel
theorem dX6_path_54 : decode cX6_path 54 = .ok (.sipush 168, 3) := by decide +kernel
theorem dX6_path_57 : decode cX6_path 57 = .ok (.bipush 24, 2) := by decide +kernel
theorem dX6_path_59 : decode cX6_path 59 = .ok (.iload 4, 2) := by decide +kernel
theorem dX6_path_61 : decode cX6_path 61 = .ok (.imul, 1) := by decide +kernel
theorem dX6_path_62 : decode cX6_path 62 = .ok (.iadd, 1) := by decide +kernel
theorem dX6_path_63 : decode cX6_path 63 = .ok (.iload_n 3, 1) := by decide +kernel
theorem dX6_path_64 : decode cX6_path 64 = .ok (.iadd, 1) := by decide +kernel
theorem dX6_path_65 : decode cX6_path 65 = .ok (.iaload, 1) := by decide +kernel
theorem dX6_path_66 : decode cX6_path 66 = .ok (.goto 5, 3) := by decide +kernel
theorem dX6_path_69 : decode cX6_path 69 = .ok (.bipush (-5), 2) := by decide +kernel
theorem dX6_path_71 : decode cX6_path 71 = .ok (.ireturn, 1) := by decide +kernel
set_option maxRecDepth 20000 in
theorem ggX6_held_X6_isPlace : GoodIn wsX6_held wsX6_isPlace := goodIn_r _ [6, 7, 8, 5, 9] (by decide +kernel) (by decide +kernel)
set_option maxRecDepth 20000 in
theorem gX6_held_X6_isPlace : GoodIn wsX6_held (va_wsS RX6 57 yX6_isPlace wsX6_isPlace) := goodIn_app (goodIn_of _ (by decide +kernel)) ggX6_held_X6_isPlace
set_option maxRecDepth 20000 in
theorem ggX6_held_X6_areBeside : GoodIn wsX6_held wsX6_areBeside := goodIn_r _ [12] (by decide +kernel) (by decide +kernel)
set_option maxRecDepth 20000 in
theorem gX6_held_X6_areBeside : GoodIn wsX6_held (va_wsS RX6 77 yX6_areBeside wsX6_areBeside) := goodIn_app (goodIn_of _ (by decide +kernel)) ggX6_held_X6_areBeside
set_option maxRecDepth 20000 in
theorem ggX6_held_X6_counts : GoodIn wsX6_held wsX6_counts := goodIn_r _ [16, 2, 17, 18, 5, 19, 20, 21, 22, 23, 24, 25, 26, 27, 28, 29, 30, 31, 32, 33, 34, 35] (by decide +kernel) (by decide +kernel)
set_option maxRecDepth 20000 in
theorem gX6_held_X6_counts : GoodIn wsX6_held (wsV RX6 105 RX6 yX6_counts wsX6_counts) := goodIn_app (goodIn_of _ (by decide +kernel)) ggX6_held_X6_counts
set_option maxRecDepth 20000 in
theorem ggX6_held_X6_segment : GoodIn wsX6_held wsX6_segment := goodIn_r _ [19] (by decide +kernel) (by decide +kernel)
set_option maxRecDepth 20000 in
theorem gX6_held_X6_segment : GoodIn wsX6_held (va_wsS RX6 65 yX6_segment wsX6_segment) := goodIn_app (goodIn_of _ (by decide +kernel)) ggX6_held_X6_segment
theorem dX6_held_0 : decode cX6_held 0 = .ok (.iload_n 1, 1) := by decide +kernel
theorem dX6_held_1 : decode cX6_held 1 = .ok (.invokestatic 57, 3) := by decide +kernel
theorem dX6_held_4 : decode cX6_held 4 = .ok (.ifCond .eq 18, 3) := by decide +kernel
theorem dX6_held_7 : decode cX6_held 7 = .ok (.iload_n 2, 1) := by decide +kernel
theorem dX6_held_8 : decode cX6_held 8 = .ok (.invokestatic 57, 3) := by decide +kernel
theorem dX6_held_11 : decode cX6_held 11 = .ok (.ifCond .eq 11, 3) := by decide +kernel
theorem dX6_held_14 : decode cX6_held 14 = .ok (.iload_n 1, 1) := by decide +kernel
theorem dX6_held_15 : decode cX6_held 15 = .ok (.iload_n 2, 1) := by decide +kernel
theorem dX6_held_16 : decode cX6_held 16 = .ok (.invokestatic 77, 3) := by decide +kernel
theorem dX6_held_19 : decode cX6_held 19 = .ok (.ifCond .ne 5, 3) := by decide +kernel
theorem dX6_held_22 : decode cX6_held 22 = .ok (.iconst (-1), 1) := by decide +kernel
theorem dX6_held_23 : decode cX6_held 23 = .ok (.ireturn, 1) := by decide +kernel
theorem dX6_held_24 : decode cX6_held 24 = .ok (.aload_n 0, 1) := by decide +kernel
theorem dX6_held_25 : decode cX6_held 25 = .ok (.aload_n 0, 1) := by decide +kernel
theorem dX6_held_26 : decode cX6_held 26 = .ok (.getfield 7, 3) := by decide +kernel
theorem dX6_held_29 : decode cX6_held 29 = .ok (.invokevirtual 105, 3) := by decide +kernel
theorem dX6_held_32 : decode cX6_held 32 = .ok (.aload_n 0, 1) := by decide +kernel
theorem dX6_held_33 : decode cX6_held 33 = .ok (.getfield 26, 3) := by decide +kernel
theorem dX6_held_36 : decode cX6_held 36 = .ok (.iload_n 1, 1) := by decide +kernel
theorem dX6_held_37 : decode cX6_held 37 = .ok (.iload_n 2, 1) := by decide +kernel
theorem dX6_held_38 : decode cX6_held 38 = .ok (.invokestatic 65, 3) := by decide +kernel
theorem dX6_held_41 : decode cX6_held 41 = .ok (.iaload, 1) := by decide +kernel
theorem dX6_held_42 : decode cX6_held 42 = .ok (.ireturn, 1) := by decide +kernel
set_option maxRecDepth 20000 in
theorem ggX6_answer_X6_isCell : GoodIn wsX6_answer wsX6_isCell := goodIn_r _ [7, 8, 9, 6, 10, 11, 12, 13] (by decide +kernel) (by decide +kernel)
set_option maxRecDepth 20000 in
theorem gX6_answer_X6_isCell : GoodIn wsX6_answer (va_wsS RX6 61 yX6_isCell wsX6_isCell) := goodIn_app (goodIn_of _ (by decide +kernel)) ggX6_answer_X6_isCell
set_option maxRecDepth 20000 in
theorem ggX6_answer_X6_in : GoodIn wsX6_answer wsX6_in := goodIn_r _ [13] (by decide +kernel) (by decide +kernel)
set_option maxRecDepth 20000 in
theorem gX6_answer_X6_in : GoodIn wsX6_answer (va_wsS RX6 53 yX6_in wsX6_in) := goodIn_app (goodIn_of _ (by decide +kernel)) ggX6_answer_X6_in
set_option maxRecDepth 20000 in
theorem ggX6_answer_X6_answers : GoodIn wsX6_answer wsX6_answers := goodIn_r _ [17, 2, 3, 1, 4, 5, 6, 7, 8, 9, 10, 11, 12, 13, 18, 19, 20, 21, 22, 23, 24, 25, 26, 27, 28, 29, 30, 31, 32, 33, 34, 35, 36, 37, 38, 39, 40, 41, 42, 43, 44, 45] (by decide +kernel) (by decide +kernel)
set_option maxRecDepth 20000 in
theorem gX6_answer_X6_answers : GoodIn wsX6_answer (wsV RX6 204 RX6 yX6_answers wsX6_answers) := goodIn_app (goodIn_of _ (by decide +kernel)) ggX6_answer_X6_answers
theorem dX6_answer_0 : decode cX6_answer 0 = .ok (.aload_n 0, 1) := by decide +kernel
theorem dX6_answer_1 : decode cX6_answer 1 = .ok (.getfield 7, 3) := by decide +kernel
theorem dX6_answer_4 : decode cX6_answer 4 = .ok (.iload_n 1, 1) := by decide +kernel
theorem dX6_answer_5 : decode cX6_answer 5 = .ok (.invokestatic 61, 3) := by decide +kernel
theorem dX6_answer_8 : decode cX6_answer 8 = .ok (.ifCond .ne 5, 3) := by decide +kernel
theorem dX6_answer_11 : decode cX6_answer 11 = .ok (.iconst (-1), 1) := by decide +kernel
theorem dX6_answer_12 : decode cX6_answer 12 = .ok (.ireturn, 1) := by decide +kernel
theorem dX6_answer_13 : decode cX6_answer 13 = .ok (.iload_n 2, 1) := by decide +kernel
theorem dX6_answer_14 : decode cX6_answer 14 = .ok (.iconst 0, 1) := by decide +kernel
theorem dX6_answer_15 : decode cX6_answer 15 = .ok (.sipush 255, 3) := by decide +kernel
theorem dX6_answer_18 : decode cX6_answer 18 = .ok (.invokestatic 53, 3) := by decide +kernel
theorem dX6_answer_21 : decode cX6_answer 21 = .ok (.ifCond .ne 6, 3) := by decide +kernel
theorem dX6_answer_24 : decode cX6_answer 24 = .ok (.bipush (-2), 2) := by decide +kernel
theorem dX6_answer_26 : decode cX6_answer 26 = .ok (.ireturn, 1) := by decide +kernel
theorem dX6_answer_27 : decode cX6_answer 27 = .ok (.aload_n 0, 1) := by decide +kernel
theorem dX6_answer_28 : decode cX6_answer 28 = .ok (.iload_n 2, 1) := by decide +kernel
theorem dX6_answer_29 : decode cX6_answer 29 = .ok (.invokevirtual 204, 3) := by decide +kernel
theorem dX6_answer_32 : decode cX6_answer 32 = .ok (.aload_n 0, 1) := by decide +kernel
theorem dX6_answer_33 : decode cX6_answer 33 = .ok (.getfield 39, 3) := by decide +kernel
theorem dX6_answer_36 : decode cX6_answer 36 = .ok (.iload_n 1, 1) := by decide +kernel
theorem dX6_answer_37 : decode cX6_answer 37 = .ok (.iaload, 1) := by decide +kernel
theorem dX6_answer_38 : decode cX6_answer 38 = .ok (.bipush (-5), 2) := by decide +kernel
theorem dX6_answer_40 : decode cX6_answer 40 = .ok (.if_icmp .ne 8, 3) := by decide +kernel
theorem dX6_answer_43 : decode cX6_answer 43 = .ok (.bipush (-5), 2) := by decide +kernel
theorem dX6_answer_45 : decode cX6_answer 45 = .ok (.goto 9, 3) := by decide +kernel
theorem dX6_answer_48 : decode cX6_answer 48 = .ok (.aload_n 0, 1) := by decide +kernel
theorem dX6_answer_49 : decode cX6_answer 49 = .ok (.getfield 42, 3) := by decide +kernel
theorem dX6_answer_52 : decode cX6_answer 52 = .ok (.iload_n 1, 1) := by decide +kernel
theorem dX6_answer_53 : decode cX6_answer 53 = .ok (.iaload, 1) := by decide +kernel
theorem dX6_answer_54 : decode cX6_answer 54 = .ok (.ireturn, 1) := by decide +kernel
set_option maxRecDepth 20000 in
theorem ggX6_ones_X6_isCell : GoodIn wsX6_ones wsX6_isCell := goodIn_r _ [7, 8, 9, 6, 10, 11, 12, 13] (by decide +kernel) (by decide +kernel)
set_option maxRecDepth 20000 in
theorem gX6_ones_X6_isCell : GoodIn wsX6_ones (va_wsS RX6 61 yX6_isCell wsX6_isCell) := goodIn_app (goodIn_of _ (by decide +kernel)) ggX6_ones_X6_isCell
set_option maxRecDepth 20000 in
theorem ggX6_ones_X6_answers : GoodIn wsX6_ones wsX6_answers := goodIn_r _ [17, 3, 2, 1, 4, 5, 6, 7, 8, 9, 10, 11, 12, 13, 18, 19, 20, 21, 22, 23, 24, 25, 26, 27, 28, 29, 30, 31, 32, 33, 34, 35, 36, 37, 38, 39, 40, 41, 42, 43, 44, 45] (by decide +kernel) (by decide +kernel)
set_option maxRecDepth 20000 in
theorem gX6_ones_X6_answers : GoodIn wsX6_ones (wsV RX6 204 RX6 yX6_answers wsX6_answers) := goodIn_app (goodIn_of _ (by decide +kernel)) ggX6_ones_X6_answers
theorem dX6_ones_0 : decode cX6_ones 0 = .ok (.aload_n 0, 1) := by decide +kernel
theorem dX6_ones_1 : decode cX6_ones 1 = .ok (.getfield 7, 3) := by decide +kernel
theorem dX6_ones_4 : decode cX6_ones 4 = .ok (.iload_n 1, 1) := by decide +kernel
theorem dX6_ones_5 : decode cX6_ones 5 = .ok (.invokestatic 61, 3) := by decide +kernel
theorem dX6_ones_8 : decode cX6_ones 8 = .ok (.ifCond .ne 5, 3) := by decide +kernel
theorem dX6_ones_11 : decode cX6_ones 11 = .ok (.iconst (-1), 1) := by decide +kernel
theorem dX6_ones_12 : decode cX6_ones 12 = .ok (.ireturn, 1) := by decide +kernel
theorem dX6_ones_13 : decode cX6_ones 13 = .ok (.iconst 0, 1) := by decide +kernel
theorem dX6_ones_14 : decode cX6_ones 14 = .ok (.istore_n 2, 1) := by decide +kernel
theorem dX6_ones_15 : decode cX6_ones 15 = .ok (.iconst 0, 1) := by decide +kernel
theorem dX6_ones_16 : decode cX6_ones 16 = .ok (.istore_n 3, 1) := by decide +kernel
theorem dX6_ones_17 : decode cX6_ones 17 = .ok (.iload_n 3, 1) := by decide +kernel
theorem dX6_ones_18 : decode cX6_ones 18 = .ok (.sipush 256, 3) := by decide +kernel
theorem dX6_ones_21 : decode cX6_ones 21 = .ok (.if_icmp .ge 23, 3) := by decide +kernel
theorem dX6_ones_24 : decode cX6_ones 24 = .ok (.aload_n 0, 1) := by decide +kernel
theorem dX6_ones_25 : decode cX6_ones 25 = .ok (.iload_n 3, 1) := by decide +kernel
theorem dX6_ones_26 : decode cX6_ones 26 = .ok (.invokevirtual 204, 3) := by decide +kernel
theorem dX6_ones_29 : decode cX6_ones 29 = .ok (.iload_n 2, 1) := by decide +kernel
theorem dX6_ones_30 : decode cX6_ones 30 = .ok (.aload_n 0, 1) := by decide +kernel
theorem dX6_ones_31 : decode cX6_ones 31 = .ok (.getfield 42, 3) := by decide +kernel
theorem dX6_ones_34 : decode cX6_ones 34 = .ok (.iload_n 1, 1) := by decide +kernel
theorem dX6_ones_35 : decode cX6_ones 35 = .ok (.iaload, 1) := by decide +kernel
theorem dX6_ones_36 : decode cX6_ones 36 = .ok (.iadd, 1) := by decide +kernel
theorem dX6_ones_37 : decode cX6_ones 37 = .ok (.istore_n 2, 1) := by decide +kernel
theorem dX6_ones_38 : decode cX6_ones 38 = .ok (.iinc 3 1, 3) := by decide +kernel
theorem dX6_ones_41 : decode cX6_ones 41 = .ok (.goto (-24), 3) := by decide +kernel
theorem dX6_ones_44 : decode cX6_ones 44 = .ok (.aload_n 0, 1) := by decide +kernel
theorem dX6_ones_45 : decode cX6_ones 45 = .ok (.getfield 39, 3) := by decide +kernel
theorem dX6_ones_48 : decode cX6_ones 48 = .ok (.iload_n 1, 1) := by decide +kernel
theorem dX6_ones_49 : decode cX6_ones 49 = .ok (.iaload, 1) := by decide +kernel
theorem dX6_ones_50 : decode cX6_ones 50 = .ok (.bipush (-5), 2) := by decide +kernel
theorem dX6_ones_52 : decode cX6_ones 52 = .ok (.if_icmp .ne 8, 3) := by decide +kernel
theorem dX6_ones_55 : decode cX6_ones 55 = .ok (.bipush (-5), 2) := by decide +kernel
theorem dX6_ones_57 : decode cX6_ones 57 = .ok (.goto 4, 3) := by decide +kernel
theorem dX6_ones_60 : decode cX6_ones 60 = .ok (.iload_n 2, 1) := by decide +kernel
theorem dX6_ones_61 : decode cX6_ones 61 = .ok (.ireturn, 1) := by decide +kernel
set_option maxRecDepth 20000 in
theorem ggX6_ifSwap_X6_isPlace : GoodIn wsX6_ifSwap wsX6_isPlace := goodIn_r _ [5, 6, 7, 4, 8] (by decide +kernel) (by decide +kernel)
set_option maxRecDepth 20000 in
theorem gX6_ifSwap_X6_isPlace : GoodIn wsX6_ifSwap (va_wsS RX6 57 yX6_isPlace wsX6_isPlace) := goodIn_app (goodIn_of _ (by decide +kernel)) ggX6_ifSwap_X6_isPlace
set_option maxRecDepth 20000 in
theorem ggX6_ifSwap_X6_isChange : GoodIn wsX6_ifSwap wsX6_isChange := goodIn_r _ [11, 12, 13, 4, 14, 2, 3, 5, 6, 7, 8] (by decide +kernel) (by decide +kernel)
set_option maxRecDepth 20000 in
theorem gX6_ifSwap_X6_isChange : GoodIn wsX6_ifSwap (va_wsS RX6 140 yX6_isChange wsX6_isChange) := goodIn_app (goodIn_of _ (by decide +kernel)) ggX6_ifSwap_X6_isChange
set_option maxRecDepth 20000 in
theorem ggX6_ifSwap_X6_swapped : GoodIn wsX6_ifSwap wsX6_swapped := goodIn_r _ [18, 1, 19, 20, 21, 4, 22, 23, 24, 25, 26, 27, 28, 29, 30, 31, 32, 33, 34, 35, 36, 37, 38, 39, 40, 41, 42, 43, 44, 45, 12, 13, 14, 2, 3, 5, 6, 7, 8, 46, 47, 48, 49, 50, 51, 52, 53, 54, 55, 56, 57, 58, 59, 60, 61, 62, 63, 64, 65, 66, 67, 68, 69, 70, 71, 72, 73, 74, 75, 76, 77, 78, 79, 80, 81, 82, 83, 84, 85, 86, 87, 88, 89, 90, 91, 92, 93, 94, 95, 96, 97] (by decide +kernel) (by decide +kernel)
set_option maxRecDepth 20000 in
theorem gX6_ifSwap_X6_swapped : GoodIn wsX6_ifSwap (wsV RX6 144 RX6 yX6_swapped wsX6_swapped) := goodIn_app (goodIn_of _ (by decide +kernel)) ggX6_ifSwap_X6_swapped
theorem dX6_ifSwap_0 : decode cX6_ifSwap 0 = .ok (.iload_n 1, 1) := by decide +kernel
theorem dX6_ifSwap_1 : decode cX6_ifSwap 1 = .ok (.invokestatic 57, 3) := by decide +kernel
theorem dX6_ifSwap_4 : decode cX6_ifSwap 4 = .ok (.ifCond .eq 10, 3) := by decide +kernel
theorem dX6_ifSwap_7 : decode cX6_ifSwap 7 = .ok (.iload_n 2, 1) := by decide +kernel
theorem dX6_ifSwap_8 : decode cX6_ifSwap 8 = .ok (.invokestatic 57, 3) := by decide +kernel
theorem dX6_ifSwap_11 : decode cX6_ifSwap 11 = .ok (.ifCond .ne 5, 3) := by decide +kernel
theorem dX6_ifSwap_14 : decode cX6_ifSwap 14 = .ok (.iconst (-1), 1) := by decide +kernel
theorem dX6_ifSwap_15 : decode cX6_ifSwap 15 = .ok (.ireturn, 1) := by decide +kernel
theorem dX6_ifSwap_16 : decode cX6_ifSwap 16 = .ok (.aload_n 0, 1) := by decide +kernel
theorem dX6_ifSwap_17 : decode cX6_ifSwap 17 = .ok (.getfield 7, 3) := by decide +kernel
theorem dX6_ifSwap_20 : decode cX6_ifSwap 20 = .ok (.iload_n 1, 1) := by decide +kernel
theorem dX6_ifSwap_21 : decode cX6_ifSwap 21 = .ok (.iload_n 2, 1) := by decide +kernel
theorem dX6_ifSwap_22 : decode cX6_ifSwap 22 = .ok (.invokestatic 140, 3) := by decide +kernel
theorem dX6_ifSwap_25 : decode cX6_ifSwap 25 = .ok (.ifCond .eq 12, 3) := by decide +kernel
theorem dX6_ifSwap_28 : decode cX6_ifSwap 28 = .ok (.aload_n 0, 1) := by decide +kernel
theorem dX6_ifSwap_29 : decode cX6_ifSwap 29 = .ok (.iload_n 1, 1) := by decide +kernel
theorem dX6_ifSwap_30 : decode cX6_ifSwap 30 = .ok (.iload_n 2, 1) := by decide +kernel
theorem dX6_ifSwap_31 : decode cX6_ifSwap 31 = .ok (.invokevirtual 144, 3) := by decide +kernel
theorem dX6_ifSwap_34 : decode cX6_ifSwap 34 = .ok (.goto 5, 3) := by decide +kernel
theorem dX6_ifSwap_37 : decode cX6_ifSwap 37 = .ok (.bipush (-5), 2) := by decide +kernel
theorem dX6_ifSwap_39 : decode cX6_ifSwap 39 = .ok (.ireturn, 1) := by decide +kernel
set_option maxRecDepth 20000 in
theorem ggX6_bestSwap_X6_isCell : GoodIn wsX6_bestSwap wsX6_isCell := goodIn_r _ [5, 6, 7, 4, 8, 9, 10, 11] (by decide +kernel) (by decide +kernel)
set_option maxRecDepth 20000 in
theorem gX6_bestSwap_X6_isCell : GoodIn wsX6_bestSwap (va_wsS RX6 61 yX6_isCell wsX6_isCell) := goodIn_app (goodIn_of _ (by decide +kernel)) ggX6_bestSwap_X6_isCell
set_option maxRecDepth 20000 in
theorem ggX6_bestSwap_X6_segments : GoodIn wsX6_bestSwap wsX6_segments := goodIn_r _ [14] (by decide +kernel) (by decide +kernel)
set_option maxRecDepth 20000 in
theorem gX6_bestSwap_X6_segments : GoodIn wsX6_bestSwap (va_wsS RX6 115 yX6_segments wsX6_segments) := goodIn_app (goodIn_of _ (by decide +kernel)) ggX6_bestSwap_X6_segments
set_option maxRecDepth 20000 in
theorem ggX6_bestSwap_X6_swapped : GoodIn wsX6_bestSwap wsX6_swapped := goodIn_r _ [18, 1, 19, 20, 21, 4, 22, 23, 24, 25, 26, 27, 28, 29, 30, 31, 32, 33, 34, 35, 36, 37, 38, 39, 40, 41, 42, 43, 44, 45, 2, 3, 5, 6, 7, 8, 9, 10, 11, 46, 47, 48, 49, 50, 51, 52, 53, 54, 55, 56, 57, 58, 59, 60, 61, 62, 63, 64, 65, 66, 67, 68, 69, 70, 71, 72, 73, 74, 75, 76, 77, 78, 12, 13, 14, 79, 80, 81, 82, 83, 84, 85, 86, 87, 88, 89, 90, 91, 92, 93, 94] (by decide +kernel) (by decide +kernel)
set_option maxRecDepth 20000 in
theorem gX6_bestSwap_X6_swapped : GoodIn wsX6_bestSwap (wsV RX6 144 RX6 yX6_swapped wsX6_swapped) := goodIn_app (goodIn_of _ (by decide +kernel)) ggX6_bestSwap_X6_swapped
theorem dX6_bestSwap_0 : decode cX6_bestSwap 0 = .ok (.aload_n 0, 1) := by decide +kernel
theorem dX6_bestSwap_1 : decode cX6_bestSwap 1 = .ok (.getfield 7, 3) := by decide +kernel
theorem dX6_bestSwap_4 : decode cX6_bestSwap 4 = .ok (.iload_n 1, 1) := by decide +kernel
theorem dX6_bestSwap_5 : decode cX6_bestSwap 5 = .ok (.invokestatic 61, 3) := by decide +kernel
theorem dX6_bestSwap_8 : decode cX6_bestSwap 8 = .ok (.ifCond .ne 5, 3) := by decide +kernel
theorem dX6_bestSwap_11 : decode cX6_bestSwap 11 = .ok (.iconst (-1), 1) := by decide +kernel
theorem dX6_bestSwap_12 : decode cX6_bestSwap 12 = .ok (.ireturn, 1) := by decide +kernel
theorem dX6_bestSwap_13 : decode cX6_bestSwap 13 = .ok (.bipush (-5), 2) := by decide +kernel
theorem dX6_bestSwap_15 : decode cX6_bestSwap 15 = .ok (.istore_n 2, 1) := by decide +kernel
theorem dX6_bestSwap_16 : decode cX6_bestSwap 16 = .ok (.aload_n 0, 1) := by decide +kernel
theorem dX6_bestSwap_17 : decode cX6_bestSwap 17 = .ok (.getfield 7, 3) := by decide +kernel
theorem dX6_bestSwap_20 : decode cX6_bestSwap 20 = .ok (.invokestatic 115, 3) := by decide +kernel
theorem dX6_bestSwap_23 : decode cX6_bestSwap 23 = .ok (.istore_n 3, 1) := by decide +kernel
theorem dX6_bestSwap_24 : decode cX6_bestSwap 24 = .ok (.iconst 0, 1) := by decide +kernel
theorem dX6_bestSwap_25 : decode cX6_bestSwap 25 = .ok (.istore 4, 2) := by decide +kernel
theorem dX6_bestSwap_27 : decode cX6_bestSwap 27 = .ok (.iload 4, 2) := by decide +kernel
theorem dX6_bestSwap_29 : decode cX6_bestSwap 29 = .ok (.bipush 24, 2) := by decide +kernel
theorem dX6_bestSwap_31 : decode cX6_bestSwap 31 = .ok (.if_icmp .ge 73, 3) := by decide +kernel
theorem dX6_bestSwap_34 : decode cX6_bestSwap 34 = .ok (.iload 4, 2) := by decide +kernel
theorem dX6_bestSwap_36 : decode cX6_bestSwap 36 = .ok (.iload_n 1, 1) := by decide +kernel
theorem dX6_bestSwap_37 : decode cX6_bestSwap 37 = .ok (.if_icmp .ne 8, 3) := by decide +kernel
theorem dX6_bestSwap_40 : decode cX6_bestSwap 40 = .ok (.bipush (-3), 2) := by decide +kernel
theorem dX6_bestSwap_42 : decode cX6_bestSwap 42 = .ok (.goto 10, 3) := by decide +kernel
theorem dX6_bestSwap_45 : decode cX6_bestSwap 45 = .ok (.aload_n 0, 1) := by decide +kernel
theorem dX6_bestSwap_46 : decode cX6_bestSwap 46 = .ok (.iload_n 1, 1) := by decide +kernel
theorem dX6_bestSwap_47 : decode cX6_bestSwap 47 = .ok (.iload 4, 2) := by decide +kernel
theorem dX6_bestSwap_49 : decode cX6_bestSwap 49 = .ok (.invokevirtual 144, 3) := by decide +kernel
theorem dX6_bestSwap_52 : decode cX6_bestSwap 52 = .ok (.istore 5, 2) := by decide +kernel
theorem dX6_bestSwap_54 : decode cX6_bestSwap 54 = .ok (.iload 5, 2) := by decide +kernel
theorem dX6_bestSwap_56 : decode cX6_bestSwap 56 = .ok (.bipush (-3), 2) := by decide +kernel
theorem dX6_bestSwap_58 : decode cX6_bestSwap 58 = .ok (.if_icmp .eq 13, 3) := by decide +kernel
theorem dX6_bestSwap_61 : decode cX6_bestSwap 61 = .ok (.iload 5, 2) := by decide +kernel
theorem dX6_bestSwap_63 : decode cX6_bestSwap 63 = .ok (.iload_n 3, 1) := by decide +kernel
theorem dX6_bestSwap_64 : decode cX6_bestSwap 64 = .ok (.if_icmp .ge 7, 3) := by decide +kernel
theorem dX6_bestSwap_67 : decode cX6_bestSwap 67 = .ok (.iconst 1, 1) := by decide +kernel
theorem dX6_bestSwap_68 : decode cX6_bestSwap 68 = .ok (.goto 4, 3) := by decide +kernel
theorem dX6_bestSwap_71 : decode cX6_bestSwap 71 = .ok (.iconst 0, 1) := by decide +kernel
theorem dX6_bestSwap_72 : decode cX6_bestSwap 72 = .ok (.istore 6, 2) := by decide +kernel
theorem dX6_bestSwap_74 : decode cX6_bestSwap 74 = .ok (.iload 6, 2) := by decide +kernel
theorem dX6_bestSwap_76 : decode cX6_bestSwap 76 = .ok (.ifCond .eq 8, 3) := by decide +kernel
theorem dX6_bestSwap_79 : decode cX6_bestSwap 79 = .ok (.iload 4, 2) := by decide +kernel
theorem dX6_bestSwap_81 : decode cX6_bestSwap 81 = .ok (.goto 4, 3) := by decide +kernel
theorem dX6_bestSwap_84 : decode cX6_bestSwap 84 = .ok (.iload_n 2, 1) := by decide +kernel
theorem dX6_bestSwap_85 : decode cX6_bestSwap 85 = .ok (.istore_n 2, 1) := by decide +kernel
theorem dX6_bestSwap_86 : decode cX6_bestSwap 86 = .ok (.iload 6, 2) := by decide +kernel
theorem dX6_bestSwap_88 : decode cX6_bestSwap 88 = .ok (.ifCond .eq 8, 3) := by decide +kernel
theorem dX6_bestSwap_91 : decode cX6_bestSwap 91 = .ok (.iload 5, 2) := by decide +kernel
theorem dX6_bestSwap_93 : decode cX6_bestSwap 93 = .ok (.goto 4, 3) := by decide +kernel
theorem dX6_bestSwap_96 : decode cX6_bestSwap 96 = .ok (.iload_n 3, 1) := by decide +kernel
theorem dX6_bestSwap_97 : decode cX6_bestSwap 97 = .ok (.istore_n 3, 1) := by decide +kernel
theorem dX6_bestSwap_98 : decode cX6_bestSwap 98 = .ok (.iinc 4 1, 3) := by decide +kernel
theorem dX6_bestSwap_101 : decode cX6_bestSwap 101 = .ok (.goto (-74), 3) := by decide +kernel
theorem dX6_bestSwap_104 : decode cX6_bestSwap 104 = .ok (.iload_n 2, 1) := by decide +kernel
theorem dX6_bestSwap_105 : decode cX6_bestSwap 105 = .ok (.ireturn, 1) := by decide +kernel
set_option maxRecDepth 20000 in
theorem ggX6_bestOrder_X6_ordered : GoodIn wsX6_bestOrder wsX6_ordered := goodIn_r _ [6, 7, 8, 9, 10, 5, 11, 12, 13, 14, 15, 16, 17, 18, 19, 20, 21, 22, 23, 24, 25, 26, 27, 28, 29, 30, 31, 32, 33, 34, 35, 36, 37, 38, 39, 40, 41, 42, 43, 44, 45, 46, 47, 48, 49, 50, 51, 52, 53, 54, 55, 56, 57, 1, 58, 59, 60, 61, 62, 63, 64, 65, 66, 67, 68, 69, 70, 71, 72, 73, 74, 75, 76, 77, 78, 79, 80, 81, 82, 83, 84, 85, 86, 87, 88, 89, 90, 91, 92, 93, 94] (by decide +kernel) (by decide +kernel)
set_option maxRecDepth 20000 in
theorem gX6_bestOrder_X6_ordered : GoodIn wsX6_bestOrder (wsV RX6 150 RX6 yX6_ordered wsX6_ordered) := goodIn_app (goodIn_of _ (by decide +kernel)) ggX6_bestOrder_X6_ordered
theorem dX6_bestOrder_0 : decode cX6_bestOrder 0 = .ok (.bipush (-5), 2) := by decide +kernel
theorem dX6_bestOrder_2 : decode cX6_bestOrder 2 = .ok (.istore_n 1, 1) := by decide +kernel
theorem dX6_bestOrder_3 : decode cX6_bestOrder 3 = .ok (.ldc 69, 2) := by decide +kernel
theorem dX6_bestOrder_5 : decode cX6_bestOrder 5 = .ok (.istore_n 2, 1) := by decide +kernel
theorem dX6_bestOrder_6 : decode cX6_bestOrder 6 = .ok (.iconst 0, 1) := by decide +kernel
theorem dX6_bestOrder_7 : decode cX6_bestOrder 7 = .ok (.istore_n 3, 1) := by decide +kernel
theorem dX6_bestOrder_8 : decode cX6_bestOrder 8 = .ok (.iload_n 3, 1) := by decide +kernel
theorem dX6_bestOrder_9 : decode cX6_bestOrder 9 = .ok (.iconst 3, 1) := by decide +kernel
theorem dX6_bestOrder_10 : decode cX6_bestOrder 10 = .ok (.if_icmp .ge 59, 3) := by decide +kernel
theorem dX6_bestOrder_13 : decode cX6_bestOrder 13 = .ok (.aload_n 0, 1) := by decide +kernel
theorem dX6_bestOrder_14 : decode cX6_bestOrder 14 = .ok (.iload_n 3, 1) := by decide +kernel
theorem dX6_bestOrder_15 : decode cX6_bestOrder 15 = .ok (.invokevirtual 150, 3) := by decide +kernel
theorem dX6_bestOrder_18 : decode cX6_bestOrder 18 = .ok (.istore 4, 2) := by decide +kernel
theorem dX6_bestOrder_20 : decode cX6_bestOrder 20 = .ok (.iload 4, 2) := by decide +kernel
theorem dX6_bestOrder_22 : decode cX6_bestOrder 22 = .ok (.bipush (-3), 2) := by decide +kernel
theorem dX6_bestOrder_24 : decode cX6_bestOrder 24 = .ok (.if_icmp .eq 13, 3) := by decide +kernel
theorem dX6_bestOrder_27 : decode cX6_bestOrder 27 = .ok (.iload 4, 2) := by decide +kernel
theorem dX6_bestOrder_29 : decode cX6_bestOrder 29 = .ok (.iload_n 2, 1) := by decide +kernel
theorem dX6_bestOrder_30 : decode cX6_bestOrder 30 = .ok (.if_icmp .ge 7, 3) := by decide +kernel
theorem dX6_bestOrder_33 : decode cX6_bestOrder 33 = .ok (.iconst 1, 1) := by decide +kernel
theorem dX6_bestOrder_34 : decode cX6_bestOrder 34 = .ok (.goto 4, 3) := by decide +kernel
theorem dX6_bestOrder_37 : decode cX6_bestOrder 37 = .ok (.iconst 0, 1) := by decide +kernel
theorem dX6_bestOrder_38 : decode cX6_bestOrder 38 = .ok (.istore 5, 2) := by decide +kernel
theorem dX6_bestOrder_40 : decode cX6_bestOrder 40 = .ok (.iload 5, 2) := by decide +kernel
theorem dX6_bestOrder_42 : decode cX6_bestOrder 42 = .ok (.ifCond .eq 7, 3) := by decide +kernel
theorem dX6_bestOrder_45 : decode cX6_bestOrder 45 = .ok (.iload_n 3, 1) := by decide +kernel
theorem dX6_bestOrder_46 : decode cX6_bestOrder 46 = .ok (.goto 4, 3) := by decide +kernel
theorem dX6_bestOrder_49 : decode cX6_bestOrder 49 = .ok (.iload_n 1, 1) := by decide +kernel
theorem dX6_bestOrder_50 : decode cX6_bestOrder 50 = .ok (.istore_n 1, 1) := by decide +kernel
theorem dX6_bestOrder_51 : decode cX6_bestOrder 51 = .ok (.iload 5, 2) := by decide +kernel
theorem dX6_bestOrder_53 : decode cX6_bestOrder 53 = .ok (.ifCond .eq 8, 3) := by decide +kernel
theorem dX6_bestOrder_56 : decode cX6_bestOrder 56 = .ok (.iload 4, 2) := by decide +kernel
theorem dX6_bestOrder_58 : decode cX6_bestOrder 58 = .ok (.goto 4, 3) := by decide +kernel
theorem dX6_bestOrder_61 : decode cX6_bestOrder 61 = .ok (.iload_n 2, 1) := by decide +kernel
theorem dX6_bestOrder_62 : decode cX6_bestOrder 62 = .ok (.istore_n 2, 1) := by decide +kernel
theorem dX6_bestOrder_63 : decode cX6_bestOrder 63 = .ok (.iinc 3 1, 3) := by decide +kernel
theorem dX6_bestOrder_66 : decode cX6_bestOrder 66 = .ok (.goto (-58), 3) := by decide +kernel
theorem dX6_bestOrder_69 : decode cX6_bestOrder 69 = .ok (.iload_n 1, 1) := by decide +kernel
theorem dX6_bestOrder_70 : decode cX6_bestOrder 70 = .ok (.ireturn, 1) := by decide +kernel
set_option maxRecDepth 20000 in
theorem ggX6_wires_X6_isWire : GoodIn wsX6_wires wsX6_isWire := goodIn_r _ [5, 6, 7, 4, 8, 9, 10, 11, 12, 13, 14] (by decide +kernel) (by decide +kernel)
set_option maxRecDepth 20000 in
theorem gX6_wires_X6_isWire : GoodIn wsX6_wires (va_wsS RX6 96 yX6_isWire wsX6_isWire) := goodIn_app (goodIn_of _ (by decide +kernel)) ggX6_wires_X6_isWire
theorem dX6_wires_0 : decode cX6_wires 0 = .ok (.iconst 0, 1) := by decide +kernel
theorem dX6_wires_1 : decode cX6_wires 1 = .ok (.istore_n 1, 1) := by decide +kernel
theorem dX6_wires_2 : decode cX6_wires 2 = .ok (.iconst 0, 1) := by decide +kernel
theorem dX6_wires_3 : decode cX6_wires 3 = .ok (.istore_n 2, 1) := by decide +kernel
theorem dX6_wires_4 : decode cX6_wires 4 = .ok (.iload_n 2, 1) := by decide +kernel
theorem dX6_wires_5 : decode cX6_wires 5 = .ok (.bipush 72, 2) := by decide +kernel
theorem dX6_wires_7 : decode cX6_wires 7 = .ok (.if_icmp .ge 28, 3) := by decide +kernel
theorem dX6_wires_10 : decode cX6_wires 10 = .ok (.iload_n 1, 1) := by decide +kernel
theorem dX6_wires_11 : decode cX6_wires 11 = .ok (.aload_n 0, 1) := by decide +kernel
theorem dX6_wires_12 : decode cX6_wires 12 = .ok (.getfield 7, 3) := by decide +kernel
theorem dX6_wires_15 : decode cX6_wires 15 = .ok (.iload_n 2, 1) := by decide +kernel
theorem dX6_wires_16 : decode cX6_wires 16 = .ok (.invokestatic 96, 3) := by decide +kernel
theorem dX6_wires_19 : decode cX6_wires 19 = .ok (.ifCond .eq 7, 3) := by decide +kernel
theorem dX6_wires_22 : decode cX6_wires 22 = .ok (.iconst 1, 1) := by decide +kernel
theorem dX6_wires_23 : decode cX6_wires 23 = .ok (.goto 4, 3) := by decide +kernel
theorem dX6_wires_26 : decode cX6_wires 26 = .ok (.iconst 0, 1) := by decide +kernel
theorem dX6_wires_27 : decode cX6_wires 27 = .ok (.iadd, 1) := by decide +kernel
theorem dX6_wires_28 : decode cX6_wires 28 = .ok (.istore_n 1, 1) := by decide +kernel
theorem dX6_wires_29 : decode cX6_wires 29 = .ok (.iinc 2 1, 3) := by decide +kernel
theorem dX6_wires_32 : decode cX6_wires 32 = .ok (.goto (-28), 3) := by decide +kernel
theorem dX6_wires_35 : decode cX6_wires 35 = .ok (.iload_n 1, 1) := by decide +kernel
theorem dX6_wires_36 : decode cX6_wires 36 = .ok (.ireturn, 1) := by decide +kernel
set_option maxRecDepth 20000 in
theorem ggX6_full_X6_counts : GoodIn wsX6_full wsX6_counts := goodIn_r _ [7, 2, 8, 9, 6, 10, 11, 12, 13, 14, 15, 16, 17, 18, 19, 20, 21, 22, 23, 24, 25, 26] (by decide +kernel) (by decide +kernel)
set_option maxRecDepth 20000 in
theorem gX6_full_X6_counts : GoodIn wsX6_full (wsV RX6 105 RX6 yX6_counts wsX6_counts) := goodIn_app (goodIn_of _ (by decide +kernel)) ggX6_full_X6_counts
theorem dX6_full_0 : decode cX6_full 0 = .ok (.aload_n 0, 1) := by decide +kernel
theorem dX6_full_1 : decode cX6_full 1 = .ok (.aload_n 0, 1) := by decide +kernel
theorem dX6_full_2 : decode cX6_full 2 = .ok (.getfield 7, 3) := by decide +kernel
theorem dX6_full_5 : decode cX6_full 5 = .ok (.invokevirtual 105, 3) := by decide +kernel
theorem dX6_full_8 : decode cX6_full 8 = .ok (.iconst 0, 1) := by decide +kernel
theorem dX6_full_9 : decode cX6_full 9 = .ok (.istore_n 1, 1) := by decide +kernel
theorem dX6_full_10 : decode cX6_full 10 = .ok (.iconst 0, 1) := by decide +kernel
theorem dX6_full_11 : decode cX6_full 11 = .ok (.istore_n 2, 1) := by decide +kernel
theorem dX6_full_12 : decode cX6_full 12 = .ok (.iload_n 2, 1) := by decide +kernel
theorem dX6_full_13 : decode cX6_full 13 = .ok (.bipush 48, 2) := by decide +kernel
theorem dX6_full_15 : decode cX6_full 15 = .ok (.if_icmp .ge 34, 3) := by decide +kernel
theorem dX6_full_18 : decode cX6_full 18 = .ok (.iload_n 1, 1) := by decide +kernel
theorem dX6_full_19 : decode cX6_full 19 = .ok (.aload_n 0, 1) := by decide +kernel
theorem dX6_full_20 : decode cX6_full 20 = .ok (.getfield 26, 3) := by decide +kernel
theorem dX6_full_23 : decode cX6_full 23 = .ok (.iload_n 2, 1) := by decide +kernel
theorem dX6_full_24 : decode cX6_full 24 = .ok (.iaload, 1) := by decide +kernel
theorem dX6_full_25 : decode cX6_full 25 = .ok (.aload_n 0, 1) := by decide +kernel
theorem dX6_full_26 : decode cX6_full 26 = .ok (.getfield 7, 3) := by decide +kernel
theorem dX6_full_29 : decode cX6_full 29 = .ok (.sipush 1896, 3) := by decide +kernel
theorem dX6_full_32 : decode cX6_full 32 = .ok (.iaload, 1) := by decide +kernel
theorem dX6_full_33 : decode cX6_full 33 = .ok (.if_icmp .lt 7, 3) := by decide +kernel
theorem dX6_full_36 : decode cX6_full 36 = .ok (.iconst 1, 1) := by decide +kernel
theorem dX6_full_37 : decode cX6_full 37 = .ok (.goto 4, 3) := by decide +kernel
theorem dX6_full_40 : decode cX6_full 40 = .ok (.iconst 0, 1) := by decide +kernel
theorem dX6_full_41 : decode cX6_full 41 = .ok (.iadd, 1) := by decide +kernel
theorem dX6_full_42 : decode cX6_full 42 = .ok (.istore_n 1, 1) := by decide +kernel
theorem dX6_full_43 : decode cX6_full 43 = .ok (.iinc 2 1, 3) := by decide +kernel
theorem dX6_full_46 : decode cX6_full 46 = .ok (.goto (-34), 3) := by decide +kernel
theorem dX6_full_49 : decode cX6_full 49 = .ok (.iload_n 1, 1) := by decide +kernel
theorem dX6_full_50 : decode cX6_full 50 = .ok (.ireturn, 1) := by decide +kernel
set_option maxRecDepth 20000 in
theorem ggX6_ofDepths_X6_answers : GoodIn wsX6_ofDepths wsX6_answers := goodIn_r _ [7, 2, 8, 1, 9, 10, 6, 11, 12, 13, 14, 15, 16, 17, 18, 19, 20, 21, 22, 23, 24, 25, 26, 27, 28, 29, 30, 31, 32, 33, 34, 35, 36, 37, 38, 39, 40, 41, 42, 43, 44, 45] (by decide +kernel) (by decide +kernel)
set_option maxRecDepth 20000 in
theorem gX6_ofDepths_X6_answers : GoodIn wsX6_ofDepths (wsV RX6 204 RX6 yX6_answers wsX6_answers) := goodIn_app (goodIn_of _ (by decide +kernel)) ggX6_ofDepths_X6_answers
set_option maxRecDepth 20000 in
theorem ggX6_ofDepths_X6_isCell : GoodIn wsX6_ofDepths wsX6_isCell := goodIn_r _ [11, 12, 13, 6, 14, 15, 16, 17] (by decide +kernel) (by decide +kernel)
set_option maxRecDepth 20000 in
theorem gX6_ofDepths_X6_isCell : GoodIn wsX6_ofDepths (va_wsS RX6 61 yX6_isCell wsX6_isCell) := goodIn_app (goodIn_of _ (by decide +kernel)) ggX6_ofDepths_X6_isCell
theorem dX6_ofDepths_0 : decode cX6_ofDepths 0 = .ok (.aload_n 0, 1) := by decide +kernel
theorem dX6_ofDepths_1 : decode cX6_ofDepths 1 = .ok (.iconst 0, 1) := by decide +kernel
theorem dX6_ofDepths_2 : decode cX6_ofDepths 2 = .ok (.invokevirtual 204, 3) := by decide +kernel
theorem dX6_ofDepths_5 : decode cX6_ofDepths 5 = .ok (.iconst 0, 1) := by decide +kernel
theorem dX6_ofDepths_6 : decode cX6_ofDepths 6 = .ok (.istore_n 2, 1) := by decide +kernel
theorem dX6_ofDepths_7 : decode cX6_ofDepths 7 = .ok (.iconst 0, 1) := by decide +kernel
theorem dX6_ofDepths_8 : decode cX6_ofDepths 8 = .ok (.istore_n 3, 1) := by decide +kernel
theorem dX6_ofDepths_9 : decode cX6_ofDepths 9 = .ok (.iconst 0, 1) := by decide +kernel
theorem dX6_ofDepths_10 : decode cX6_ofDepths 10 = .ok (.istore 4, 2) := by decide +kernel
theorem dX6_ofDepths_12 : decode cX6_ofDepths 12 = .ok (.iload 4, 2) := by decide +kernel
theorem dX6_ofDepths_14 : decode cX6_ofDepths 14 = .ok (.bipush 24, 2) := by decide +kernel
theorem dX6_ofDepths_16 : decode cX6_ofDepths 16 = .ok (.if_icmp .ge 64, 3) := by decide +kernel
theorem dX6_ofDepths_19 : decode cX6_ofDepths 19 = .ok (.iload_n 2, 1) := by decide +kernel
theorem dX6_ofDepths_20 : decode cX6_ofDepths 20 = .ok (.aload_n 0, 1) := by decide +kernel
theorem dX6_ofDepths_21 : decode cX6_ofDepths 21 = .ok (.getfield 7, 3) := by decide +kernel
theorem dX6_ofDepths_24 : decode cX6_ofDepths 24 = .ok (.iload 4, 2) := by decide +kernel
theorem dX6_ofDepths_26 : decode cX6_ofDepths 26 = .ok (.invokestatic 61, 3) := by decide +kernel
theorem dX6_ofDepths_29 : decode cX6_ofDepths 29 = .ok (.ifCond .eq 19, 3) := by decide +kernel
theorem dX6_ofDepths_32 : decode cX6_ofDepths 32 = .ok (.aload_n 0, 1) := by decide +kernel
theorem dX6_ofDepths_33 : decode cX6_ofDepths 33 = .ok (.getfield 39, 3) := by decide +kernel
theorem dX6_ofDepths_36 : decode cX6_ofDepths 36 = .ok (.iload 4, 2) := by decide +kernel
theorem dX6_ofDepths_38 : decode cX6_ofDepths 38 = .ok (.iaload, 1) := by decide +kernel
theorem dX6_ofDepths_39 : decode cX6_ofDepths 39 = .ok (.bipush (-5), 2) := by decide +kernel
theorem dX6_ofDepths_41 : decode cX6_ofDepths 41 = .ok (.if_icmp .ne 7, 3) := by decide +kernel
theorem dX6_ofDepths_44 : decode cX6_ofDepths 44 = .ok (.iconst 1, 1) := by decide +kernel
theorem dX6_ofDepths_45 : decode cX6_ofDepths 45 = .ok (.goto 4, 3) := by decide +kernel
theorem dX6_ofDepths_48 : decode cX6_ofDepths 48 = .ok (.iconst 0, 1) := by decide +kernel
theorem dX6_ofDepths_49 : decode cX6_ofDepths 49 = .ok (.iadd, 1) := by decide +kernel
theorem dX6_ofDepths_50 : decode cX6_ofDepths 50 = .ok (.istore_n 2, 1) := by decide +kernel
theorem dX6_ofDepths_51 : decode cX6_ofDepths 51 = .ok (.aload_n 0, 1) := by decide +kernel
theorem dX6_ofDepths_52 : decode cX6_ofDepths 52 = .ok (.getfield 39, 3) := by decide +kernel
theorem dX6_ofDepths_55 : decode cX6_ofDepths 55 = .ok (.iload 4, 2) := by decide +kernel
theorem dX6_ofDepths_57 : decode cX6_ofDepths 57 = .ok (.iaload, 1) := by decide +kernel
theorem dX6_ofDepths_58 : decode cX6_ofDepths 58 = .ok (.iload_n 3, 1) := by decide +kernel
theorem dX6_ofDepths_59 : decode cX6_ofDepths 59 = .ok (.if_icmp .le 13, 3) := by decide +kernel
theorem dX6_ofDepths_62 : decode cX6_ofDepths 62 = .ok (.aload_n 0, 1) := by decide +kernel
theorem dX6_ofDepths_63 : decode cX6_ofDepths 63 = .ok (.getfield 39, 3) := by decide +kernel
theorem dX6_ofDepths_66 : decode cX6_ofDepths 66 = .ok (.iload 4, 2) := by decide +kernel
theorem dX6_ofDepths_68 : decode cX6_ofDepths 68 = .ok (.iaload, 1) := by decide +kernel
theorem dX6_ofDepths_69 : decode cX6_ofDepths 69 = .ok (.goto 4, 3) := by decide +kernel
theorem dX6_ofDepths_72 : decode cX6_ofDepths 72 = .ok (.iload_n 3, 1) := by decide +kernel
theorem dX6_ofDepths_73 : decode cX6_ofDepths 73 = .ok (.istore_n 3, 1) := by decide +kernel
theorem dX6_ofDepths_74 : decode cX6_ofDepths 74 = .ok (.iinc 4 1, 3) := by decide +kernel
theorem dX6_ofDepths_77 : decode cX6_ofDepths 77 = .ok (.goto (-65), 3) := by decide +kernel
theorem dX6_ofDepths_80 : decode cX6_ofDepths 80 = .ok (.iload_n 1, 1) := by decide +kernel
theorem dX6_ofDepths_81 : decode cX6_ofDepths 81 = .ok (.ifCond .eq 7, 3) := by decide +kernel
theorem dX6_ofDepths_84 : decode cX6_ofDepths 84 = .ok (.iload_n 3, 1) := by decide +kernel
theorem dX6_ofDepths_85 : decode cX6_ofDepths 85 = .ok (.goto 4, 3) := by decide +kernel
theorem dX6_ofDepths_88 : decode cX6_ofDepths 88 = .ok (.iload_n 2, 1) := by decide +kernel
theorem dX6_ofDepths_89 : decode cX6_ofDepths 89 = .ok (.ireturn, 1) := by decide +kernel
set_option maxRecDepth 20000 in
theorem ggX6_most_X6_counts : GoodIn wsX6_most wsX6_counts := goodIn_r _ [6, 7, 8, 9, 5, 10, 15, 16, 17, 18, 19, 20, 21, 22, 23, 24, 25, 26, 27, 28, 29, 30] (by decide +kernel) (by decide +kernel)
set_option maxRecDepth 20000 in
theorem gX6_most_X6_counts : GoodIn wsX6_most (wsV RX6 105 RX6 yX6_counts wsX6_counts) := goodIn_app (goodIn_of _ (by decide +kernel)) ggX6_most_X6_counts
set_option maxRecDepth 20000 in
theorem ggX6_most_X6_mostHeld : GoodIn wsX6_most wsX6_mostHeld := goodIn_r _ [14, 7, 15, 16, 17, 18, 19, 20, 21, 22, 23, 24, 25, 26, 27, 28, 29, 30] (by decide +kernel) (by decide +kernel)
set_option maxRecDepth 20000 in
theorem gX6_most_X6_mostHeld : GoodIn wsX6_most (wsV RX6 153 RX6 yX6_mostHeld wsX6_mostHeld) := goodIn_app (goodIn_of _ (by decide +kernel)) ggX6_most_X6_mostHeld
theorem dX6_most_0 : decode cX6_most 0 = .ok (.aload_n 0, 1) := by decide +kernel
theorem dX6_most_1 : decode cX6_most 1 = .ok (.aload_n 0, 1) := by decide +kernel
theorem dX6_most_2 : decode cX6_most 2 = .ok (.getfield 7, 3) := by decide +kernel
theorem dX6_most_5 : decode cX6_most 5 = .ok (.invokevirtual 105, 3) := by decide +kernel
theorem dX6_most_8 : decode cX6_most 8 = .ok (.aload_n 0, 1) := by decide +kernel
theorem dX6_most_9 : decode cX6_most 9 = .ok (.invokevirtual 153, 3) := by decide +kernel
theorem dX6_most_12 : decode cX6_most 12 = .ok (.ireturn, 1) := by decide +kernel
set_option maxRecDepth 20000 in
theorem ggX6_count_X6_cells : GoodIn wsX6_count wsX6_cells := goodIn_r _ [7, 8, 9, 6, 10, 11, 12, 13, 14, 15, 16] (by decide +kernel) (by decide +kernel)
set_option maxRecDepth 20000 in
theorem gX6_count_X6_cells : GoodIn wsX6_count (va_wsS RX6 122 yX6_cells wsX6_cells) := goodIn_app (goodIn_of _ (by decide +kernel)) ggX6_count_X6_cells
set_option maxRecDepth 20000 in
theorem ggX6_count_X6_wires : GoodIn wsX6_count wsX6_wires := goodIn_r _ [20, 1, 21, 22, 6, 23, 8, 9, 10, 11, 12, 13, 14, 15, 16, 69, 70, 71, 72, 73, 74, 75, 76, 77, 78, 79, 80, 81, 82, 83, 84] (by decide +kernel) (by decide +kernel)
set_option maxRecDepth 20000 in
theorem gX6_count_X6_wires : GoodIn wsX6_count (wsV RX6 211 RX6 yX6_wires wsX6_wires) := goodIn_app (goodIn_of _ (by decide +kernel)) ggX6_count_X6_wires
set_option maxRecDepth 20000 in
theorem ggX6_count_X6_segments : GoodIn wsX6_count wsX6_segments := goodIn_r _ [26] (by decide +kernel) (by decide +kernel)
set_option maxRecDepth 20000 in
theorem gX6_count_X6_segments : GoodIn wsX6_count (va_wsS RX6 115 yX6_segments wsX6_segments) := goodIn_app (goodIn_of _ (by decide +kernel)) ggX6_count_X6_segments
set_option maxRecDepth 20000 in
theorem ggX6_count_X6_full : GoodIn wsX6_count wsX6_full := goodIn_r _ [30, 1, 31, 32, 33, 34, 6, 35, 36, 37, 38, 69, 70, 71, 72, 73, 74, 75, 76, 77, 78, 79, 80, 81, 82, 83, 84] (by decide +kernel) (by decide +kernel)
set_option maxRecDepth 20000 in
theorem gX6_count_X6_full : GoodIn wsX6_count (wsV RX6 214 RX6 yX6_full wsX6_full) := goodIn_app (goodIn_of _ (by decide +kernel)) ggX6_count_X6_full
set_option maxRecDepth 20000 in
theorem ggX6_count_X6_most : GoodIn wsX6_count wsX6_most := goodIn_r _ [42, 1, 32, 33, 34, 6, 35, 31, 36, 37, 38, 43, 44, 45, 46, 69, 70, 71, 72, 73, 74, 75, 76, 77, 78, 79, 80, 81, 82, 83, 84] (by decide +kernel) (by decide +kernel)
set_option maxRecDepth 20000 in
theorem gX6_count_X6_most : GoodIn wsX6_count (wsV RX6 217 RX6 yX6_most wsX6_most) := goodIn_app (goodIn_of _ (by decide +kernel)) ggX6_count_X6_most
set_option maxRecDepth 20000 in
theorem ggX6_count_X6_ofDepths : GoodIn wsX6_count wsX6_ofDepths := goodIn_r _ [50, 1, 51, 52, 53, 54, 6, 55, 56, 8, 9, 10, 11, 12, 13, 14, 15, 16, 57, 58, 59, 60, 61, 62, 63, 64, 65, 66, 67, 68, 69, 70, 71, 72, 73, 74, 75, 76, 77, 78, 79, 80, 81, 82, 83, 84] (by decide +kernel) (by decide +kernel)
set_option maxRecDepth 20000 in
theorem gX6_count_X6_ofDepths : GoodIn wsX6_count (wsV RX6 220 RX6 yX6_ofDepths wsX6_ofDepths) := goodIn_app (goodIn_of _ (by decide +kernel)) ggX6_count_X6_ofDepths
theorem dX6_count_0 : decode cX6_count 0 = .ok (.iload_n 1, 1) := by decide +kernel
theorem dX6_count_1 : decode cX6_count 1 = .ok (.tableswitch 130 0 10 #[59, 67, 72, 80, 85, 90, 90, 106, 106, 120, 125], 59) := by decide +kernel
theorem dX6_count_60 : decode cX6_count 60 = .ok (.aload_n 0, 1) := by decide +kernel
theorem dX6_count_61 : decode cX6_count 61 = .ok (.getfield 7, 3) := by decide +kernel
theorem dX6_count_64 : decode cX6_count 64 = .ok (.invokestatic 122, 3) := by decide +kernel
theorem dX6_count_67 : decode cX6_count 67 = .ok (.ireturn, 1) := by decide +kernel
theorem dX6_count_68 : decode cX6_count 68 = .ok (.aload_n 0, 1) := by decide +kernel
theorem dX6_count_69 : decode cX6_count 69 = .ok (.invokevirtual 211, 3) := by decide +kernel
theorem dX6_count_72 : decode cX6_count 72 = .ok (.ireturn, 1) := by decide +kernel
theorem dX6_count_73 : decode cX6_count 73 = .ok (.aload_n 0, 1) := by decide +kernel
theorem dX6_count_74 : decode cX6_count 74 = .ok (.getfield 7, 3) := by decide +kernel
theorem dX6_count_77 : decode cX6_count 77 = .ok (.invokestatic 115, 3) := by decide +kernel
theorem dX6_count_80 : decode cX6_count 80 = .ok (.ireturn, 1) := by decide +kernel
theorem dX6_count_81 : decode cX6_count 81 = .ok (.aload_n 0, 1) := by decide +kernel
theorem dX6_count_82 : decode cX6_count 82 = .ok (.invokevirtual 214, 3) := by decide +kernel
theorem dX6_count_85 : decode cX6_count 85 = .ok (.ireturn, 1) := by decide +kernel
theorem dX6_count_86 : decode cX6_count 86 = .ok (.aload_n 0, 1) := by decide +kernel
theorem dX6_count_87 : decode cX6_count 87 = .ok (.invokevirtual 217, 3) := by decide +kernel
theorem dX6_count_90 : decode cX6_count 90 = .ok (.ireturn, 1) := by decide +kernel
theorem dX6_count_91 : decode cX6_count 91 = .ok (.aload_n 0, 1) := by decide +kernel
theorem dX6_count_92 : decode cX6_count 92 = .ok (.iload_n 1, 1) := by decide +kernel
theorem dX6_count_93 : decode cX6_count 93 = .ok (.bipush 6, 2) := by decide +kernel
theorem dX6_count_95 : decode cX6_count 95 = .ok (.if_icmp .ne 7, 3) := by decide +kernel
theorem dX6_count_98 : decode cX6_count 98 = .ok (.iconst 1, 1) := by decide +kernel
theorem dX6_count_99 : decode cX6_count 99 = .ok (.goto 4, 3) := by decide +kernel
theorem dX6_count_102 : decode cX6_count 102 = .ok (.iconst 0, 1) := by decide +kernel
theorem dX6_count_103 : decode cX6_count 103 = .ok (.invokevirtual 220, 3) := by decide +kernel
theorem dX6_count_106 : decode cX6_count 106 = .ok (.ireturn, 1) := by decide +kernel
theorem dX6_count_107 : decode cX6_count 107 = .ok (.aload_n 0, 1) := by decide +kernel
theorem dX6_count_108 : decode cX6_count 108 = .ok (.getfield 7, 3) := by decide +kernel
theorem dX6_count_111 : decode cX6_count 111 = .ok (.sipush 1896, 3) := by decide +kernel
theorem dX6_count_114 : decode cX6_count 114 = .ok (.iload_n 1, 1) := by decide +kernel
theorem dX6_count_115 : decode cX6_count 115 = .ok (.iadd, 1) := by decide +kernel
theorem dX6_count_116 : decode cX6_count 116 = .ok (.bipush 7, 2) := by decide +kernel
theorem dX6_count_118 : decode cX6_count 118 = .ok (.isub, 1) := by decide +kernel
theorem dX6_count_119 : decode cX6_count 119 = .ok (.iaload, 1) := by decide +kernel
theorem dX6_count_120 : decode cX6_count 120 = .ok (.ireturn, 1) := by decide +kernel
theorem dX6_count_121 : decode cX6_count 121 = .ok (.aload_n 0, 1) := by decide +kernel
theorem dX6_count_122 : decode cX6_count 122 = .ok (.getfield 45, 3) := by decide +kernel
theorem dX6_count_125 : decode cX6_count 125 = .ok (.ireturn, 1) := by decide +kernel
theorem dX6_count_126 : decode cX6_count 126 = .ok (.aload_n 0, 1) := by decide +kernel
theorem dX6_count_127 : decode cX6_count 127 = .ok (.getfield 157, 3) := by decide +kernel
theorem dX6_count_130 : decode cX6_count 130 = .ok (.ireturn, 1) := by decide +kernel
theorem dX6_count_131 : decode cX6_count 131 = .ok (.bipush (-2), 2) := by decide +kernel
theorem dX6_count_133 : decode cX6_count 133 = .ok (.ireturn, 1) := by decide +kernel
end
section
theorem dJ9_abs_0f7a4_0 : decode cJ9_abs_0f7a4 0 = .ok (.iload_n 0, 1) := by decide +kernel
theorem dJ9_abs_0f7a4_1 : decode cJ9_abs_0f7a4 1 = .ok (.ifCond .ge 8, 3) := by decide +kernel
theorem dJ9_abs_0f7a4_4 : decode cJ9_abs_0f7a4 4 = .ok (.iload_n 0, 1) := by decide +kernel
theorem dJ9_abs_0f7a4_5 : decode cJ9_abs_0f7a4 5 = .ok (.ineg, 1) := by decide +kernel
theorem dJ9_abs_0f7a4_6 : decode cJ9_abs_0f7a4 6 = .ok (.goto 4, 3) := by decide +kernel
theorem dJ9_abs_0f7a4_9 : decode cJ9_abs_0f7a4 9 = .ok (.iload_n 0, 1) := by decide +kernel
theorem dJ9_abs_0f7a4_10 : decode cJ9_abs_0f7a4 10 = .ok (.ireturn, 1) := by decide +kernel
theorem dJ9_max_7cf53_0 : decode cJ9_max_7cf53 0 = .ok (.iload_n 0, 1) := by decide +kernel
theorem dJ9_max_7cf53_1 : decode cJ9_max_7cf53 1 = .ok (.iload_n 1, 1) := by decide +kernel
theorem dJ9_max_7cf53_2 : decode cJ9_max_7cf53 2 = .ok (.if_icmp .lt 7, 3) := by decide +kernel
theorem dJ9_max_7cf53_5 : decode cJ9_max_7cf53 5 = .ok (.iload_n 0, 1) := by decide +kernel
theorem dJ9_max_7cf53_6 : decode cJ9_max_7cf53 6 = .ok (.goto 4, 3) := by decide +kernel
theorem dJ9_max_7cf53_9 : decode cJ9_max_7cf53 9 = .ok (.iload_n 1, 1) := by decide +kernel
theorem dJ9_max_7cf53_10 : decode cJ9_max_7cf53 10 = .ok (.ireturn, 1) := by decide +kernel
theorem dJ7_fill_53178_0 : decode cJ7_fill_53178 0 = .ok (.iconst 0, 1) := by decide +kernel
theorem dJ7_fill_53178_1 : decode cJ7_fill_53178 1 = .ok (.istore_n 2, 1) := by decide +kernel
theorem dJ7_fill_53178_2 : decode cJ7_fill_53178 2 = .ok (.aload_n 0, 1) := by decide +kernel
theorem dJ7_fill_53178_3 : decode cJ7_fill_53178 3 = .ok (.arraylength, 1) := by decide +kernel
theorem dJ7_fill_53178_4 : decode cJ7_fill_53178 4 = .ok (.istore_n 3, 1) := by decide +kernel
theorem dJ7_fill_53178_5 : decode cJ7_fill_53178 5 = .ok (.iload_n 2, 1) := by decide +kernel
theorem dJ7_fill_53178_6 : decode cJ7_fill_53178 6 = .ok (.iload_n 3, 1) := by decide +kernel
theorem dJ7_fill_53178_7 : decode cJ7_fill_53178 7 = .ok (.if_icmp .ge 13, 3) := by decide +kernel
theorem dJ7_fill_53178_10 : decode cJ7_fill_53178 10 = .ok (.aload_n 0, 1) := by decide +kernel
theorem dJ7_fill_53178_11 : decode cJ7_fill_53178 11 = .ok (.iload_n 2, 1) := by decide +kernel
theorem dJ7_fill_53178_12 : decode cJ7_fill_53178 12 = .ok (.iload_n 1, 1) := by decide +kernel
theorem dJ7_fill_53178_13 : decode cJ7_fill_53178 13 = .ok (.iastore, 1) := by decide +kernel
theorem dJ7_fill_53178_14 : decode cJ7_fill_53178 14 = .ok (.iinc 2 1, 3) := by decide +kernel
theorem dJ7_fill_53178_17 : decode cJ7_fill_53178 17 = .ok (.goto (-12), 3) := by decide +kernel
theorem dJ7_fill_53178_20 : decode cJ7_fill_53178 20 = .ok (.return_, 1) := by decide +kernel
end
section
/-! THE FRAME OF ALL WALKS: a context X, the world w as a list, the locals lv as a list; one rule an instruction. -/
/-- what the static array STEPS holds -/
def xb_st : Nat → Value := fun j => match j with | 0 => .int (-6) | 1 => .int (-1) | 2 => .int 1 | _ => .int 6
/-- private methods of a nest mate that are called: owner, pool number, name -/
def xb_nl : List (String × Nat × MethodName) := [(RX5, 31, yX2_init), (RX5, 38, yX3_init), (RX5, 45, yX4_init), (RX0, 46, yX5_isPlace), (RX0, 50, yX5_isWire), (RX0, 83, yX5_junctionOf), (RX0, 89, yX5_distanceBetween), (RX0, 93, yX5_segmentBetween), (RX2, 35, yX5_junctionOf), (RX2, 38, yX5_isPlace), (RX2, 68, yX5_segmentAt), (RX3, 49, yX5_isPlace)]
def xb_sta (A : Nat → Prop) (U : State) (t : Nat) : Prop := va_Z "LookupBoard" "STEPS" "[I" (.ref t) A U U.heap ∧ va_T .int t 4 xb_st A U U.heap
def xb_E (A : Nat → Prop) (U : State) : Prop := (∀ q ∈ xb_nl, va_Nw (.methodLinkNest q.1 q.2.1 q.2.2 "LookupBoard") U) ∧ va_Nw (.fieldLinkNest RX2 72 "LookupBoard" "STEPS" "[I" "LookupBoard") U ∧ ∃ t : Nat, xb_sta A U t
theorem xb_E_to {A B : Nat → Prop} {s U : State} {H : Heap} {locs : List Loc} (hE : xb_E A s) (hS : va_S A s.heap H locs) (hU : U.heap = H) (hW : s.WarmedH U.vm) (hAB : ∀ q, B q → A q) : xb_E B U := by
  obtain ⟨h1, h2, t, h3, h4⟩ := hE
  have hk : ∀ a : Nat, a < s.heap.size → ¬ A a → U.heap[a]? = s.heap[a]? := fun a h1 h2 => by rw [hU]; exact hS.2.1 a h1 h2
  exact ⟨fun q hq => va_Nw.warmM hW (h1 q hq), va_Nw.warmF hW h2, t, ((h3.kept hk).narrow hAB).moved hW.alike, ((h4.kept hk).narrow hAB).moved hW.alike⟩
theorem xb_E_calling {A : Nat → Prop} {U : State} {g : JFrame} {mk : MethodId} {a : Array Value} (hE : xb_E A U) : xb_E A (U.calling g mk a) := by
  obtain ⟨h1, h2, t, h3, h4⟩ := hE
  exact ⟨fun q hq => va_Nw.same rfl (u := U) rfl (h1 q hq), va_Nw.same rfl (u := U) rfl h2, t, va_Z.moved (u := U) (U := U.calling g mk a) (Vm.Alike.refl U.vm) h3, va_T.moved (u := U) (U := U.calling g mk a) (Vm.Alike.refl U.vm) h4⟩
/-- a method's start: its world -/
def xb_W (D : va_G) (tys : List (ClassId × FieldType)) (w : va_W) (sz : Nat) (U : State) : Prop := U.heap.size = sz ∧ va_P D vwCl w U.heap ∧ va_K D vwCl tys U ∧ va_D (fun _ => True) w ∧ xb_E (va_A w sz) U
/-- its end: the answer, and the world then -/
def xb_Q (D : va_G) (o : Option Value) (w1 : va_W) (A : Nat → Prop) : Array Value → State → Outcome → State → Prop := fun _ st oc t => oc = .returned o ∧ va_P D vwCl w1 t.heap ∧ va_F A st t
theorem xb_W_blind {D : va_G} {tys : List (ClassId × FieldType)} {w : va_W} {sz : Nat} {As : List Value} : FrameBlind (va_Pc As (xb_W D tys w sz)) := fun a U g mk q => by
  obtain ⟨q0, q1, qP, qK, qD, qE⟩ := q
  exact ⟨q0, q1, qP, va_K.moved (u := U) (U := U.calling g mk a) (Vm.Alike.refl U.vm) qK, qD, xb_E_calling qE⟩
abbrev xb_C : Type := Program × Launch × Jvm.Env × Room × State × MethodId × Array Value × List Frame × Method × Code × (Nat → Prop) × (State → Prop) × Nat × va_G
/-- the judgement: from this world, these locals, at this pc with this stack, the machine comes to the context's end -/
def xb_G (X : xb_C) (k n : Nat) (w : va_W) (lv : List (Nat × Value)) (pc : Nat) (st : List Value) : Prop := match X with
  | (p, l, e, R, s, m, args, below, meth, c, A, Q, nL, D) => ∀ (H : Heap) (locs : List Loc) (ls : Array Slot), va_P D vwCl w H → va_D A w → va_S A s.heap H locs → lv_has ls nL lv → W p l e R s m args below meth c H locs k n Q (F0 m pc ls st)
def xb_OK (X : xb_C) (cc : ByteArray) (ws : List Cond) (own : String) (rm : Room) (ret : Option FieldType) (nL : Nat) (tys : List (ClassId × FieldType)) (D : va_G) : Prop := match X with
  | (p, _, _, R, s, m, args, _, meth, c, A, _, nL', D') => p.tables.exec = Jvm.exec ∧ c.code = cc ∧ meth.sig.returnType = ret ∧ c.maxLocals = nL ∧ s.vm.findClass own = some m.cls ∧ (∀ w ∈ ws, w.before args s = true) ∧ meth.locks = false ∧ va_K D vwCl tys s ∧ xb_E A s ∧ (∀ q, s.heap.size ≤ q → A q) ∧ R = rm ∧ nL' = nL ∧ D' = D
def xb_Fin (X : xb_C) (D : va_G) (o : Option Value) (w1 : va_W) : Prop := match X with
  | (_, _, _, _, s, _, args, below, _, _, A, Q, _, _) => Q = MQ below (xb_Q D o w1 A) args s 0 0 A
/-- a method's contract -/
def xb_M (cc : ByteArray) (ws : List Cond) (own : String) (rm : Room) (ret : Option FieldType) (nL : Nat) (tys : List (ClassId × FieldType)) (D : va_G) (As : List Value) (w : va_W) (o : Option Value) (w1 : va_W) : Prop :=
  ∀ X : xb_C, xb_OK X cc ws own rm ret nL tys D → xb_Fin X D o w1 → xb_G X 0 0 w (lv_args 0 As) 0 []
theorem xb_met {y : MethodName} {cc : ByteArray} {ws ws' : List Cond} {rm : Room} {ret : Option FieldType} {nL : Nat} {tys : List (ClassId × FieldType)} {D : va_G} {As : List Value} {w : va_W} {o : Option Value} {w1 : va_W}
    (M : xb_M cc ws y.cls rm ret nL tys D As w o w1) (hy : plainName y.cls = true) (hw : ws = Cond.code y cc nL ret :: ws') (hlen : (lg_sl As).length ≤ nL) (l : Launch) (sz : Nat) : Met l y ws rm (va_Pc As (xb_W D tys w sz)) (xb_Q D o w1 (va_A w sz)) 0 0 (va_A w sz) := by
  refine Met.ofW (cc := cc) (maxL := nL) (ret := ret) hy hw ?_
  intro p e s m args below meth c s₁ B hml hv
  obtain ⟨rfl, hsz, hP, hK, hD0, hE⟩ := hv
  subst hsz
  rw [lg_entry_eq]
  exact M (p, l, e, (headSpec ws rm).room, s, m, As.toArray, below, meth, c, va_A w s.heap.size, MQ below (xb_Q D o w1 (va_A w s.heap.size)) As.toArray s 0 0 (va_A w s.heap.size), nL, D)
    ⟨B.exec, B.bytes, B.returns, hml, findClass_of_methodNamed B.named, atoms_spec (ws := ws) B.pre, B.notSynchronized, hK, hE, fun q h => Or.inr h, rfl, rfl, rfl⟩ rfl
    s.heap [] _ hP hD0.self va_S.rf (lv_entry As hlen)
/-! a world with some of its cells changed -/
def xb_mix : va_W → List Nat → va_W → va_W
  | ws, i :: is, q :: qs => xb_mix (ws.set i q) is qs
  | ws, _, _ => ws
theorem xb_mix_get : ∀ (is : List Nat) (w1 : va_W) (ws : va_W), va_nd is = true → is.length = w1.length → (∀ i ∈ is, i < ws.length) → ∀ k : Nat, (k ∉ is ∧ (xb_mix ws is w1)[k]? = ws[k]?) ∨ ∃ j : Nat, is[j]? = some k ∧ (xb_mix ws is w1)[k]? = w1[j]?
  | [], w1, ws, _, _, _, k => Or.inl ⟨List.not_mem_nil, by cases w1 <;> rfl⟩
  | i :: is, [], ws, _, hl, _, k => by simp at hl
  | i :: is, q :: qs, ws, hn, hl, hb, k => by
    simp only [va_nd, Bool.and_eq_true, decide_eq_true_eq] at hn
    have hl' : is.length = qs.length := by simpa using hl
    have hb' : ∀ j ∈ is, j < (ws.set i q).length := fun j hj => by rw [List.length_set]; exact hb j (List.mem_cons_of_mem _ hj)
    rcases xb_mix_get is qs (ws.set i q) hn.2 hl' hb' k with ⟨h1, h2⟩ | ⟨j, h1, h2⟩
    · by_cases hk : k = i
      · subst hk
        refine Or.inr ⟨0, rfl, ?_⟩
        show (xb_mix (ws.set k q) is qs)[k]? = some q
        rw [h2, List.getElem?_set_self (hb k List.mem_cons_self)]
      · refine Or.inl ⟨fun h => (List.mem_cons.mp h).elim hk h1, ?_⟩
        show (xb_mix (ws.set i q) is qs)[k]? = _
        rw [h2, List.getElem?_set_ne (Ne.symm hk)]
    · exact Or.inr ⟨j + 1, h1, h2⟩
theorem xb_fm {ws : va_W} : ∀ {isC : List Nat} {wc : va_W}, isC.map (fun i => ws[i]?) = wc.map some → isC.filterMap (fun i => ws[i]?) = wc
  | [], [], _ => rfl
  | [], _ :: _, h => by simp at h
  | _ :: _, [], h => by simp at h
  | i :: is, q :: qs, h => by
    simp only [List.map_cons, List.cons.injEq] at h
    rw [List.filterMap_cons, h.1, xb_fm h.2]
theorem xb_D_addr {A : Nat → Prop} {ws ws' : va_W} (h : ∀ (k : Nat) (q : Nat × va_E), ws'[k]? = some q → ∃ q0 : Nat × va_E, ws[k]? = some q0 ∧ q0.1 = q.1) (hD : va_D A ws) : va_D A ws' := by
  refine ⟨fun i j x y hi hj hxy => ?_, fun k q hk => ?_⟩
  · obtain ⟨x0, h1, h2⟩ := h i x hi
    obtain ⟨y0, h3, h4⟩ := h j y hj
    exact hD.1 i j x0 y0 h1 h3 (h2.trans (hxy.trans h4.symm))
  · obtain ⟨q0, h1, h2⟩ := h k q hk
    rw [← h2]
    exact hD.2 k q0 h1
theorem xb_mix_ok {A0 : Nat → Prop} {D : va_G} {ws wc w1 : va_W} {H H1 : Heap} (hP : va_P D vwCl ws H) (hD : va_D A0 ws) (isC : List Nat) (hC : isC.map (fun i => ws[i]?) = wc.map some) (hn : va_nd isC = true) (hw : w1.map Prod.fst = wc.map Prod.fst)
    (hk : ∀ q : Nat, q < H.size → ¬ va_A wc H.size q → H1[q]? = H[q]?) (hP1 : va_P D vwCl w1 H1) : va_P D vwCl (xb_mix ws isC w1) H1 ∧ va_D A0 (xb_mix ws isC w1) := by
  have hlen : isC.length = wc.length := by have := congrArg List.length hC; simpa using this
  have hlen1 : isC.length = w1.length := by have := congrArg List.length hw; simp at this; omega
  have at' : ∀ (k : Nat) (q : Nat × va_E), wc[k]? = some q → ∃ i, isC[k]? = some i ∧ ws[i]? = some q := by
    intro k q hq
    have h1 : (isC.map (fun i => ws[i]?))[k]? = some (some q) := by rw [hC, List.getElem?_map, hq]; rfl
    rw [List.getElem?_map] at h1
    cases hi : isC[k]? with
    | none => rw [hi] at h1; cases h1
    | some i => rw [hi] at h1; exact ⟨i, rfl, Option.some.inj h1⟩
  have at2 : ∀ (k i : Nat), isC[k]? = some i → ∃ q, wc[k]? = some q ∧ ws[i]? = some q := by
    intro k i hi
    have h1 : (wc.map some)[k]? = some (ws[i]?) := by rw [← hC, List.getElem?_map, hi]; rfl
    rw [List.getElem?_map] at h1
    cases hq : wc[k]? with
    | none => rw [hq] at h1; cases h1
    | some q => rw [hq] at h1; exact ⟨q, rfl, (Option.some.inj h1).symm⟩
  have hb : ∀ i ∈ isC, i < ws.length := by
    intro i hi
    obtain ⟨k, hk⟩ := List.getElem?_of_mem hi
    obtain ⟨q, -, h⟩ := at2 k i hk
    exact (List.getElem?_eq_some_iff.mp h).1
  have addr : ∀ (k : Nat) (q : Nat × va_E), (xb_mix ws isC w1)[k]? = some q → ∃ q0 : Nat × va_E, ws[k]? = some q0 ∧ q0.1 = q.1 := by
    intro k q hq
    rcases xb_mix_get isC w1 ws hn hlen1 hb k with ⟨h1, h2⟩ | ⟨j, h1, h2⟩
    · exact ⟨q, by rw [← h2]; exact hq, rfl⟩
    · rw [h2] at hq
      obtain ⟨q0, h3, h4⟩ := at2 j k h1
      refine ⟨q0, h4, ?_⟩
      have e1 : (w1.map Prod.fst)[j]? = some q.1 := by rw [List.getElem?_map, hq]; rfl
      rw [hw, List.getElem?_map, h3] at e1
      exact Option.some.inj e1
  refine ⟨fun k q hq => ?_, xb_D_addr addr hD⟩
  rcases xb_mix_get isC w1 ws hn hlen1 hb k with ⟨h1, h2⟩ | ⟨j, h1, h2⟩
  · rw [h2] at hq
    refine (hP k q hq).kept (hk q.1 ((hP k q hq).lt) (fun h => ?_))
    rcases h with ⟨k2, e, h⟩ | h
    · obtain ⟨i, h3, h4⟩ := at' k2 (q.1, e) h
      have hij := hD.1 k i q (q.1, e) hq h4 rfl
      subst hij
      exact h1 (List.mem_of_getElem? h3)
    · have := (hP k q hq).lt
      omega
  · rw [h2] at hq
    exact hP1 j q hq
/-! one rule an instruction, over xb_G -/
section XR
variable {X : xb_C} {k n : Nat} {w : va_W} {lv : List (Nat × Value)} {pc : Nat} {st : List Value} {cc : ByteArray} {ws : List Cond} {own : String} {rm : Room} {ret : Option FieldType} {nL : Nat} {tys : List (ClassId × FieldType)} {D : va_G}
theorem xi_iconst (C : xb_OK X cc ws own rm ret nL tys D) {a : Int} {v : Int32} (hd : decode cc pc = .ok (.iconst a, 1)) (hv : Int32.ofInt a = v) (g : xb_G X k n w lv (pc + 1) (.int v :: st)) : xb_G X k n w lv pc (st) := by
  obtain ⟨p, l, e, R, s, m, args, below, meth, c, A, Q, nL', D'⟩ := X
  obtain ⟨hx, hb, hr, hml, hown, hts, hlk, hK, hE, hA, rfl, rfl, rfl⟩ := C
  intro H locs ls hP hD hS hl
  exact lv_iconst hx hb hd hv (g H locs ls hP hD hS hl)
theorem xi_bipush (C : xb_OK X cc ws own rm ret nL tys D) {a : Int} {v : Int32} (hd : decode cc pc = .ok (.bipush a, 2)) (hv : (Int8.ofInt a).toInt32 = v) (g : xb_G X k n w lv (pc + 2) (.int v :: st)) : xb_G X k n w lv pc (st) := by
  obtain ⟨p, l, e, R, s, m, args, below, meth, c, A, Q, nL', D'⟩ := X
  obtain ⟨hx, hb, hr, hml, hown, hts, hlk, hK, hE, hA, rfl, rfl, rfl⟩ := C
  intro H locs ls hP hD hS hl
  exact lv_bipush hx hb hd hv (g H locs ls hP hD hS hl)
theorem xi_sipush (C : xb_OK X cc ws own rm ret nL tys D) {a : Int} {v : Int32} (hd : decode cc pc = .ok (.sipush a, 3)) (hv : (Int16.ofInt a).toInt32 = v) (g : xb_G X k n w lv (pc + 3) (.int v :: st)) : xb_G X k n w lv pc (st) := by
  obtain ⟨p, l, e, R, s, m, args, below, meth, c, A, Q, nL', D'⟩ := X
  obtain ⟨hx, hb, hr, hml, hown, hts, hlk, hK, hE, hA, rfl, rfl, rfl⟩ := C
  intro H locs ls hP hD hS hl
  exact lv_sipush hx hb hd hv (g H locs ls hP hD hS hl)
theorem xi_ldc (C : xb_OK X cc ws own rm ret nL tys D) {index : Nat} {v : Int32} (hd : decode cc pc = .ok (.ldc index, 2)) (hw : Cond.constant own index v ∈ ws) (g : xb_G X k n w lv (pc + 2) (.int v :: st)) : xb_G X k n w lv pc (st) := by
  obtain ⟨p, l, e, R, s, m, args, below, meth, c, A, Q, nL', D'⟩ := X
  obtain ⟨hx, hb, hr, hml, hown, hts, hlk, hK, hE, hA, rfl, rfl, rfl⟩ := C
  intro H locs ls hP hD hS hl
  exact lv_ldc hx hb hown (hts _ hw) hd (g H locs ls hP hD hS hl)
theorem xi_iload_n (C : xb_OK X cc ws own rm ret nL tys D) {kk : Fin 4} {i : Nat} {x : Int32} (hd : decode cc pc = .ok (.iload_n kk, 1)) (hi : (kk : Nat) = i) (j : Nat) (hj : lv[j]? = some (i, .int x)) (g : xb_G X k n w lv (pc + 1) (.int x :: st)) : xb_G X k n w lv pc (st) := by
  obtain ⟨p, l, e, R, s, m, args, below, meth, c, A, Q, nL', D'⟩ := X
  obtain ⟨hx, hb, hr, hml, hown, hts, hlk, hK, hE, hA, rfl, rfl, rfl⟩ := C
  intro H locs ls hP hD hS hl
  exact lv_iload_n hx hb hd hi (lv_at hl j hj) (g H locs ls hP hD hS hl)
theorem xi_iload (C : xb_OK X cc ws own rm ret nL tys D) {i : Nat} {x : Int32} (hd : decode cc pc = .ok (.iload i, 2)) (j : Nat) (hj : lv[j]? = some (i, .int x)) (g : xb_G X k n w lv (pc + 2) (.int x :: st)) : xb_G X k n w lv pc (st) := by
  obtain ⟨p, l, e, R, s, m, args, below, meth, c, A, Q, nL', D'⟩ := X
  obtain ⟨hx, hb, hr, hml, hown, hts, hlk, hK, hE, hA, rfl, rfl, rfl⟩ := C
  intro H locs ls hP hD hS hl
  exact lv_iload hx hb hd (lv_at hl j hj) (g H locs ls hP hD hS hl)
theorem xi_aload_n (C : xb_OK X cc ws own rm ret nL tys D) {kk : Fin 4} {i : Nat} {x : Nat} (hd : decode cc pc = .ok (.aload_n kk, 1)) (hi : (kk : Nat) = i) (j : Nat) (hj : lv[j]? = some (i, .ref x)) (g : xb_G X k n w lv (pc + 1) (.ref x :: st)) : xb_G X k n w lv pc (st) := by
  obtain ⟨p, l, e, R, s, m, args, below, meth, c, A, Q, nL', D'⟩ := X
  obtain ⟨hx, hb, hr, hml, hown, hts, hlk, hK, hE, hA, rfl, rfl, rfl⟩ := C
  intro H locs ls hP hD hS hl
  exact lv_aload_n hx hb hd hi (lv_at hl j hj) (g H locs ls hP hD hS hl)
/-- the locals behind a store: the new one stands among them, the others stood before -/
def xb_sto (lv : List (Nat × Value)) (i : Nat) (v : Value) (js : List Nat) : List (Nat × Value) := (i, v) :: js.filterMap (fun j => (lv[j]?).bind fun q => if q.1 == i || q.2.category == 2 then none else some q)
theorem xb_sto_has {ls : Array Slot} {nL : Nat} {lv lv2 : List (Nat × Value)} {i : Nat} {v : Value} (js : List Nat) (h : lv_has ls nL ((i, v) :: lv.filter (fun q => !(q.1 == i) && !(q.1 + 1 == i && q.2.category == 2)))) (ks : List Nat) (hl : lv_pick (xb_sto lv i v js) ks = lv2) : lv_has ls nL lv2 := by
  refine lv_sub (l := xb_sto lv i v js) ⟨h.1, h.2.1, fun q hq => ?_⟩ ks hl
  rcases List.mem_cons.mp hq with rfl | hq
  · exact h.2.2 _ List.mem_cons_self
  · obtain ⟨j, -, hj⟩ := List.mem_filterMap.mp hq
    cases hz : lv[j]? with
    | none => rw [hz] at hj; cases hj
    | some q0 =>
      rw [hz] at hj
      simp only [Option.bind_some] at hj
      split at hj
      · cases hj
      · next hne =>
        cases hj
        simp only [Bool.or_eq_true, not_or, Bool.not_eq_true] at hne
        refine h.2.2 _ (List.mem_cons_of_mem _ (List.mem_filter.mpr ⟨List.mem_of_getElem? hz, ?_⟩))
        rw [hne.1, hne.2]
        simp
theorem xi_istore_n (C : xb_OK X cc ws own rm ret nL tys D) {kk : Fin 4} {i : Nat} {x : Int32} {lv2 : List (Nat × Value)} (hd : decode cc pc = .ok (.istore_n kk, 1)) (hi : (kk : Nat) = i) (hn : i < nL) (js ks : List Nat) (hq : lv_pick (xb_sto lv i (.int x) js) ks = lv2) (g : xb_G X k n w lv2 (pc + 1) st) : xb_G X k n w lv pc (.int x :: st) := by
  obtain ⟨p, l, e, R, s, m, args, below, meth, c, A, Q, nL', D'⟩ := X
  obtain ⟨hx, hb, hr, hml, hown, hts, hlk, hK, hE, hA, rfl, rfl, rfl⟩ := C
  intro H locs ls hP hD hS hl
  exact lv_istore_n hx hb hd hi hl hn rfl (fun ls' h' => g H locs ls' hP hD hS (xb_sto_has js h' ks hq))
theorem xi_istore (C : xb_OK X cc ws own rm ret nL tys D) {i : Nat} {x : Int32} {lv2 : List (Nat × Value)} (hd : decode cc pc = .ok (.istore i, 2)) (hn : i < nL) (js ks : List Nat) (hq : lv_pick (xb_sto lv i (.int x) js) ks = lv2) (g : xb_G X k n w lv2 (pc + 2) st) : xb_G X k n w lv pc (.int x :: st) := by
  obtain ⟨p, l, e, R, s, m, args, below, meth, c, A, Q, nL', D'⟩ := X
  obtain ⟨hx, hb, hr, hml, hown, hts, hlk, hK, hE, hA, rfl, rfl, rfl⟩ := C
  intro H locs ls hP hD hS hl
  exact lv_istore hx hb hd hl hn rfl (fun ls' h' => g H locs ls' hP hD hS (xb_sto_has js h' ks hq))
theorem xi_astore_n (C : xb_OK X cc ws own rm ret nL tys D) {kk : Fin 4} {i : Nat} {x : Nat} {lv2 : List (Nat × Value)} (hd : decode cc pc = .ok (.astore_n kk, 1)) (hi : (kk : Nat) = i) (hn : i < nL) (js ks : List Nat) (hq : lv_pick (xb_sto lv i (.ref x) js) ks = lv2) (g : xb_G X k n w lv2 (pc + 1) st) : xb_G X k n w lv pc (.ref x :: st) := by
  obtain ⟨p, l, e, R, s, m, args, below, meth, c, A, Q, nL', D'⟩ := X
  obtain ⟨hx, hb, hr, hml, hown, hts, hlk, hK, hE, hA, rfl, rfl, rfl⟩ := C
  intro H locs ls hP hD hS hl
  exact lv_astore_n hx hb hd hi hl hn rfl (fun ls' h' => g H locs ls' hP hD hS (xb_sto_has js h' ks hq))
theorem xi_astore (C : xb_OK X cc ws own rm ret nL tys D) {i : Nat} {x : Nat} {lv2 : List (Nat × Value)} (hd : decode cc pc = .ok (.astore i, 2)) (hn : i < nL) (js ks : List Nat) (hq : lv_pick (xb_sto lv i (.ref x) js) ks = lv2) (g : xb_G X k n w lv2 (pc + 2) st) : xb_G X k n w lv pc (.ref x :: st) := by
  obtain ⟨p, l, e, R, s, m, args, below, meth, c, A, Q, nL', D'⟩ := X
  obtain ⟨hx, hb, hr, hml, hown, hts, hlk, hK, hE, hA, rfl, rfl, rfl⟩ := C
  intro H locs ls hP hD hS hl
  exact lv_astore hx hb hd hl hn rfl (fun ls' h' => g H locs ls' hP hD hS (xb_sto_has js h' ks hq))
theorem xi_iinc (C : xb_OK X cc ws own rm ret nL tys D) {i : Nat} {a : Int} {x v : Int32} {lv2 : List (Nat × Value)} (hd : decode cc pc = .ok (.iinc i a, 3)) (j : Nat) (hj : lv[j]? = some (i, .int x)) (hv : x + Int32.ofInt a = v) (hn : i < nL) (js ks : List Nat) (hq : lv_pick (xb_sto lv i (.int v) js) ks = lv2) (g : xb_G X k n w lv2 (pc + 3) st) : xb_G X k n w lv pc st := by
  obtain ⟨p, l, e, R, s, m, args, below, meth, c, A, Q, nL', D'⟩ := X
  obtain ⟨hx, hb, hr, hml, hown, hts, hlk, hK, hE, hA, rfl, rfl, rfl⟩ := C
  intro H locs ls hP hD hS hl
  exact lv_iinc hx hb hd hl hj hv hn rfl (fun ls' h' => g H locs ls' hP hD hS (xb_sto_has js h' ks hq))
theorem xi_iadd (C : xb_OK X cc ws own rm ret nL tys D) {x y : Int32} (hd : decode cc pc = .ok (.iadd, 1)) (g : xb_G X k n w lv (pc + 1) (.int (x + y) :: st)) : xb_G X k n w lv pc (.int y :: .int x :: st) := by
  obtain ⟨p, l, e, R, s, m, args, below, meth, c, A, Q, nL', D'⟩ := X
  obtain ⟨hx, hb, hr, hml, hown, hts, hlk, hK, hE, hA, rfl, rfl, rfl⟩ := C
  intro H locs ls hP hD hS hl
  exact lv_iadd hx hb hd (g H locs ls hP hD hS hl)
theorem xi_isub (C : xb_OK X cc ws own rm ret nL tys D) {x y : Int32} (hd : decode cc pc = .ok (.isub, 1)) (g : xb_G X k n w lv (pc + 1) (.int (x - y) :: st)) : xb_G X k n w lv pc (.int y :: .int x :: st) := by
  obtain ⟨p, l, e, R, s, m, args, below, meth, c, A, Q, nL', D'⟩ := X
  obtain ⟨hx, hb, hr, hml, hown, hts, hlk, hK, hE, hA, rfl, rfl, rfl⟩ := C
  intro H locs ls hP hD hS hl
  exact lv_isub hx hb hd (g H locs ls hP hD hS hl)
theorem xi_imul (C : xb_OK X cc ws own rm ret nL tys D) {x y : Int32} (hd : decode cc pc = .ok (.imul, 1)) (g : xb_G X k n w lv (pc + 1) (.int (x * y) :: st)) : xb_G X k n w lv pc (.int y :: .int x :: st) := by
  obtain ⟨p, l, e, R, s, m, args, below, meth, c, A, Q, nL', D'⟩ := X
  obtain ⟨hx, hb, hr, hml, hown, hts, hlk, hK, hE, hA, rfl, rfl, rfl⟩ := C
  intro H locs ls hP hD hS hl
  exact lv_imul hx hb hd (g H locs ls hP hD hS hl)
theorem xi_iand (C : xb_OK X cc ws own rm ret nL tys D) {x y : Int32} (hd : decode cc pc = .ok (.iand, 1)) (g : xb_G X k n w lv (pc + 1) (.int (x &&& y) :: st)) : xb_G X k n w lv pc (.int y :: .int x :: st) := by
  obtain ⟨p, l, e, R, s, m, args, below, meth, c, A, Q, nL', D'⟩ := X
  obtain ⟨hx, hb, hr, hml, hown, hts, hlk, hK, hE, hA, rfl, rfl, rfl⟩ := C
  intro H locs ls hP hD hS hl
  exact lv_iand hx hb hd (g H locs ls hP hD hS hl)
theorem xi_ior (C : xb_OK X cc ws own rm ret nL tys D) {x y : Int32} (hd : decode cc pc = .ok (.ior, 1)) (g : xb_G X k n w lv (pc + 1) (.int (x ||| y) :: st)) : xb_G X k n w lv pc (.int y :: .int x :: st) := by
  obtain ⟨p, l, e, R, s, m, args, below, meth, c, A, Q, nL', D'⟩ := X
  obtain ⟨hx, hb, hr, hml, hown, hts, hlk, hK, hE, hA, rfl, rfl, rfl⟩ := C
  intro H locs ls hP hD hS hl
  exact lv_ior hx hb hd (g H locs ls hP hD hS hl)
theorem xi_ishl (C : xb_OK X cc ws own rm ret nL tys D) {x y : Int32} (hd : decode cc pc = .ok (.ishl, 1)) (g : xb_G X k n w lv (pc + 1) (.int (x <<< (y &&& 31)) :: st)) : xb_G X k n w lv pc (.int y :: .int x :: st) := by
  obtain ⟨p, l, e, R, s, m, args, below, meth, c, A, Q, nL', D'⟩ := X
  obtain ⟨hx, hb, hr, hml, hown, hts, hlk, hK, hE, hA, rfl, rfl, rfl⟩ := C
  intro H locs ls hP hD hS hl
  exact lv_ishl hx hb hd (g H locs ls hP hD hS hl)
theorem xi_ishr (C : xb_OK X cc ws own rm ret nL tys D) {x y : Int32} (hd : decode cc pc = .ok (.ishr, 1)) (g : xb_G X k n w lv (pc + 1) (.int (x >>> (y &&& 31)) :: st)) : xb_G X k n w lv pc (.int y :: .int x :: st) := by
  obtain ⟨p, l, e, R, s, m, args, below, meth, c, A, Q, nL', D'⟩ := X
  obtain ⟨hx, hb, hr, hml, hown, hts, hlk, hK, hE, hA, rfl, rfl, rfl⟩ := C
  intro H locs ls hP hD hS hl
  exact lv_ishr hx hb hd (g H locs ls hP hD hS hl)
theorem xi_idiv (C : xb_OK X cc ws own rm ret nL tys D) {x y : Int32} (hd : decode cc pc = .ok (.idiv, 1)) (hne : ¬ y = 0) (g : xb_G X k n w lv (pc + 1) (.int (x / y) :: st)) : xb_G X k n w lv pc (.int y :: .int x :: st) := by
  obtain ⟨p, l, e, R, s, m, args, below, meth, c, A, Q, nL', D'⟩ := X
  obtain ⟨hx, hb, hr, hml, hown, hts, hlk, hK, hE, hA, rfl, rfl, rfl⟩ := C
  intro H locs ls hP hD hS hl
  exact lv_idiv hx hb hd hne (g H locs ls hP hD hS hl)
theorem xi_irem (C : xb_OK X cc ws own rm ret nL tys D) {x y : Int32} (hd : decode cc pc = .ok (.irem, 1)) (hne : ¬ y = 0) (g : xb_G X k n w lv (pc + 1) (.int (x - x / y * y) :: st)) : xb_G X k n w lv pc (.int y :: .int x :: st) := by
  obtain ⟨p, l, e, R, s, m, args, below, meth, c, A, Q, nL', D'⟩ := X
  obtain ⟨hx, hb, hr, hml, hown, hts, hlk, hK, hE, hA, rfl, rfl, rfl⟩ := C
  intro H locs ls hP hD hS hl
  exact lv_irem hx hb hd hne (g H locs ls hP hD hS hl)
theorem xi_ineg (C : xb_OK X cc ws own rm ret nL tys D) {x : Int32} (hd : decode cc pc = .ok (.ineg, 1)) (g : xb_G X k n w lv (pc + 1) (.int (-x) :: st)) : xb_G X k n w lv pc (.int x :: st) := by
  obtain ⟨p, l, e, R, s, m, args, below, meth, c, A, Q, nL', D'⟩ := X
  obtain ⟨hx, hb, hr, hml, hown, hts, hlk, hK, hE, hA, rfl, rfl, rfl⟩ := C
  intro H locs ls hP hD hS hl
  exact lv_ineg hx hb hd (g H locs ls hP hD hS hl)
theorem xi_i2c (C : xb_OK X cc ws own rm ret nL tys D) {x : Int32} (hd : decode cc pc = .ok (.i2c, 1)) (g : xb_G X k n w lv (pc + 1) (.int ((x.toUInt32 % 65536).toInt32) :: st)) : xb_G X k n w lv pc (.int x :: st) := by
  obtain ⟨p, l, e, R, s, m, args, below, meth, c, A, Q, nL', D'⟩ := X
  obtain ⟨hx, hb, hr, hml, hown, hts, hlk, hK, hE, hA, rfl, rfl, rfl⟩ := C
  intro H locs ls hP hD hS hl
  exact lv_i2c hx hb hd rfl (g H locs ls hP hD hS hl)
theorem xi_dup (C : xb_OK X cc ws own rm ret nL tys D) {a : Value} (hd : decode cc pc = .ok (.dup, 1)) (ha : a.category = 1) (g : xb_G X k n w lv (pc + 1) (a :: a :: st)) : xb_G X k n w lv pc (a :: st) := by
  obtain ⟨p, l, e, R, s, m, args, below, meth, c, A, Q, nL', D'⟩ := X
  obtain ⟨hx, hb, hr, hml, hown, hts, hlk, hK, hE, hA, rfl, rfl, rfl⟩ := C
  intro H locs ls hP hD hS hl
  exact lv_dup hx hb hd ha (g H locs ls hP hD hS hl)
theorem xi_dup2 (C : xb_OK X cc ws own rm ret nL tys D) {a b : Value} (hd : decode cc pc = .ok (.dup2, 1)) (ha : a.category = 1) (hb2 : b.category = 1) (g : xb_G X k n w lv (pc + 1) (a :: b :: a :: b :: st)) : xb_G X k n w lv pc (a :: b :: st) := by
  obtain ⟨p, l, e, R, s, m, args, below, meth, c, A, Q, nL', D'⟩ := X
  obtain ⟨hx, hb, hr, hml, hown, hts, hlk, hK, hE, hA, rfl, rfl, rfl⟩ := C
  intro H locs ls hP hD hS hl
  exact lv_dup2_11 hx hb hd ha hb2 (g H locs ls hP hD hS hl)
theorem xi_goto (C : xb_OK X cc ws own rm ret nL tys D) {off : Int} {tgt : Nat} (hd : decode cc pc = .ok (.goto off, 3)) (ht : (pc : Int) + off = (tgt : Int)) (g : xb_G X k n w lv tgt st) : xb_G X k n w lv pc st := by
  obtain ⟨p, l, e, R, s, m, args, below, meth, c, A, Q, nL', D'⟩ := X
  obtain ⟨hx, hb, hr, hml, hown, hts, hlk, hK, hE, hA, rfl, rfl, rfl⟩ := C
  intro H locs ls hP hD hS hl
  exact lv_goto hx hb hd ht (g H locs ls hP hD hS hl)
theorem xi_if_eq (C : xb_OK X cc ws own rm ret nL tys D) {x : Int32} {off : Int} {tgt : Nat} (hd : decode cc pc = .ok (.ifCond .eq off, 3)) (ht : (pc : Int) + off = (tgt : Int)) (g1 : x = 0 → xb_G X k n w lv tgt st) (g2 : ¬ x = 0 → xb_G X k n w lv (pc + 3) st) : xb_G X k n w lv pc (.int x :: st) := by
  obtain ⟨p, l, e, R, s, m, args, below, meth, c, A, Q, nL', D'⟩ := X
  obtain ⟨hx, hb, hr, hml, hown, hts, hlk, hK, hE, hA, rfl, rfl, rfl⟩ := C
  intro H locs ls hP hD hS hl
  exact lv_if_eq hx hb hd ht (fun z => g1 z H locs ls hP hD hS hl) (fun z => g2 z H locs ls hP hD hS hl)
theorem xi_if_ne (C : xb_OK X cc ws own rm ret nL tys D) {x : Int32} {off : Int} {tgt : Nat} (hd : decode cc pc = .ok (.ifCond .ne off, 3)) (ht : (pc : Int) + off = (tgt : Int)) (g1 : ¬ x = 0 → xb_G X k n w lv tgt st) (g2 : x = 0 → xb_G X k n w lv (pc + 3) st) : xb_G X k n w lv pc (.int x :: st) := by
  obtain ⟨p, l, e, R, s, m, args, below, meth, c, A, Q, nL', D'⟩ := X
  obtain ⟨hx, hb, hr, hml, hown, hts, hlk, hK, hE, hA, rfl, rfl, rfl⟩ := C
  intro H locs ls hP hD hS hl
  exact lv_if_ne hx hb hd ht (fun z => g1 z H locs ls hP hD hS hl) (fun z => g2 z H locs ls hP hD hS hl)
theorem xi_if_lt (C : xb_OK X cc ws own rm ret nL tys D) {x : Int32} {off : Int} {tgt : Nat} (hd : decode cc pc = .ok (.ifCond .lt off, 3)) (ht : (pc : Int) + off = (tgt : Int)) (g1 : x < 0 → xb_G X k n w lv tgt st) (g2 : ¬ x < 0 → xb_G X k n w lv (pc + 3) st) : xb_G X k n w lv pc (.int x :: st) := by
  obtain ⟨p, l, e, R, s, m, args, below, meth, c, A, Q, nL', D'⟩ := X
  obtain ⟨hx, hb, hr, hml, hown, hts, hlk, hK, hE, hA, rfl, rfl, rfl⟩ := C
  intro H locs ls hP hD hS hl
  exact lv_if_lt hx hb hd ht (fun z => g1 z H locs ls hP hD hS hl) (fun z => g2 z H locs ls hP hD hS hl)
theorem xi_if_ge (C : xb_OK X cc ws own rm ret nL tys D) {x : Int32} {off : Int} {tgt : Nat} (hd : decode cc pc = .ok (.ifCond .ge off, 3)) (ht : (pc : Int) + off = (tgt : Int)) (g1 : 0 ≤ x → xb_G X k n w lv tgt st) (g2 : ¬ 0 ≤ x → xb_G X k n w lv (pc + 3) st) : xb_G X k n w lv pc (.int x :: st) := by
  obtain ⟨p, l, e, R, s, m, args, below, meth, c, A, Q, nL', D'⟩ := X
  obtain ⟨hx, hb, hr, hml, hown, hts, hlk, hK, hE, hA, rfl, rfl, rfl⟩ := C
  intro H locs ls hP hD hS hl
  exact lv_if_ge hx hb hd ht (fun z => g1 z H locs ls hP hD hS hl) (fun z => g2 z H locs ls hP hD hS hl)
theorem xi_if_gt (C : xb_OK X cc ws own rm ret nL tys D) {x : Int32} {off : Int} {tgt : Nat} (hd : decode cc pc = .ok (.ifCond .gt off, 3)) (ht : (pc : Int) + off = (tgt : Int)) (g1 : 0 < x → xb_G X k n w lv tgt st) (g2 : ¬ 0 < x → xb_G X k n w lv (pc + 3) st) : xb_G X k n w lv pc (.int x :: st) := by
  obtain ⟨p, l, e, R, s, m, args, below, meth, c, A, Q, nL', D'⟩ := X
  obtain ⟨hx, hb, hr, hml, hown, hts, hlk, hK, hE, hA, rfl, rfl, rfl⟩ := C
  intro H locs ls hP hD hS hl
  exact lv_if_gt hx hb hd ht (fun z => g1 z H locs ls hP hD hS hl) (fun z => g2 z H locs ls hP hD hS hl)
theorem xi_if_le (C : xb_OK X cc ws own rm ret nL tys D) {x : Int32} {off : Int} {tgt : Nat} (hd : decode cc pc = .ok (.ifCond .le off, 3)) (ht : (pc : Int) + off = (tgt : Int)) (g1 : x ≤ 0 → xb_G X k n w lv tgt st) (g2 : ¬ x ≤ 0 → xb_G X k n w lv (pc + 3) st) : xb_G X k n w lv pc (.int x :: st) := by
  obtain ⟨p, l, e, R, s, m, args, below, meth, c, A, Q, nL', D'⟩ := X
  obtain ⟨hx, hb, hr, hml, hown, hts, hlk, hK, hE, hA, rfl, rfl, rfl⟩ := C
  intro H locs ls hP hD hS hl
  exact lv_if_le hx hb hd ht (fun z => g1 z H locs ls hP hD hS hl) (fun z => g2 z H locs ls hP hD hS hl)
theorem xi_icmp_eq (C : xb_OK X cc ws own rm ret nL tys D) {x y : Int32} {off : Int} {tgt : Nat} (hd : decode cc pc = .ok (.if_icmp .eq off, 3)) (ht : (pc : Int) + off = (tgt : Int)) (g1 : x = y → xb_G X k n w lv tgt st) (g2 : ¬ x = y → xb_G X k n w lv (pc + 3) st) : xb_G X k n w lv pc (.int y :: .int x :: st) := by
  obtain ⟨p, l, e, R, s, m, args, below, meth, c, A, Q, nL', D'⟩ := X
  obtain ⟨hx, hb, hr, hml, hown, hts, hlk, hK, hE, hA, rfl, rfl, rfl⟩ := C
  intro H locs ls hP hD hS hl
  exact lv_icmp_eq hx hb hd ht (fun z => g1 z H locs ls hP hD hS hl) (fun z => g2 z H locs ls hP hD hS hl)
theorem xi_icmp_ne (C : xb_OK X cc ws own rm ret nL tys D) {x y : Int32} {off : Int} {tgt : Nat} (hd : decode cc pc = .ok (.if_icmp .ne off, 3)) (ht : (pc : Int) + off = (tgt : Int)) (g1 : ¬ x = y → xb_G X k n w lv tgt st) (g2 : x = y → xb_G X k n w lv (pc + 3) st) : xb_G X k n w lv pc (.int y :: .int x :: st) := by
  obtain ⟨p, l, e, R, s, m, args, below, meth, c, A, Q, nL', D'⟩ := X
  obtain ⟨hx, hb, hr, hml, hown, hts, hlk, hK, hE, hA, rfl, rfl, rfl⟩ := C
  intro H locs ls hP hD hS hl
  exact lv_icmp_ne hx hb hd ht (fun z => g1 z H locs ls hP hD hS hl) (fun z => g2 z H locs ls hP hD hS hl)
theorem xi_icmp_lt (C : xb_OK X cc ws own rm ret nL tys D) {x y : Int32} {off : Int} {tgt : Nat} (hd : decode cc pc = .ok (.if_icmp .lt off, 3)) (ht : (pc : Int) + off = (tgt : Int)) (g1 : x < y → xb_G X k n w lv tgt st) (g2 : ¬ x < y → xb_G X k n w lv (pc + 3) st) : xb_G X k n w lv pc (.int y :: .int x :: st) := by
  obtain ⟨p, l, e, R, s, m, args, below, meth, c, A, Q, nL', D'⟩ := X
  obtain ⟨hx, hb, hr, hml, hown, hts, hlk, hK, hE, hA, rfl, rfl, rfl⟩ := C
  intro H locs ls hP hD hS hl
  exact lv_icmp_lt hx hb hd ht (fun z => g1 z H locs ls hP hD hS hl) (fun z => g2 z H locs ls hP hD hS hl)
theorem xi_icmp_ge (C : xb_OK X cc ws own rm ret nL tys D) {x y : Int32} {off : Int} {tgt : Nat} (hd : decode cc pc = .ok (.if_icmp .ge off, 3)) (ht : (pc : Int) + off = (tgt : Int)) (g1 : y ≤ x → xb_G X k n w lv tgt st) (g2 : ¬ y ≤ x → xb_G X k n w lv (pc + 3) st) : xb_G X k n w lv pc (.int y :: .int x :: st) := by
  obtain ⟨p, l, e, R, s, m, args, below, meth, c, A, Q, nL', D'⟩ := X
  obtain ⟨hx, hb, hr, hml, hown, hts, hlk, hK, hE, hA, rfl, rfl, rfl⟩ := C
  intro H locs ls hP hD hS hl
  exact lv_icmp_ge hx hb hd ht (fun z => g1 z H locs ls hP hD hS hl) (fun z => g2 z H locs ls hP hD hS hl)
theorem xi_icmp_gt (C : xb_OK X cc ws own rm ret nL tys D) {x y : Int32} {off : Int} {tgt : Nat} (hd : decode cc pc = .ok (.if_icmp .gt off, 3)) (ht : (pc : Int) + off = (tgt : Int)) (g1 : y < x → xb_G X k n w lv tgt st) (g2 : ¬ y < x → xb_G X k n w lv (pc + 3) st) : xb_G X k n w lv pc (.int y :: .int x :: st) := by
  obtain ⟨p, l, e, R, s, m, args, below, meth, c, A, Q, nL', D'⟩ := X
  obtain ⟨hx, hb, hr, hml, hown, hts, hlk, hK, hE, hA, rfl, rfl, rfl⟩ := C
  intro H locs ls hP hD hS hl
  exact lv_icmp_gt hx hb hd ht (fun z => g1 z H locs ls hP hD hS hl) (fun z => g2 z H locs ls hP hD hS hl)
theorem xi_icmp_le (C : xb_OK X cc ws own rm ret nL tys D) {x y : Int32} {off : Int} {tgt : Nat} (hd : decode cc pc = .ok (.if_icmp .le off, 3)) (ht : (pc : Int) + off = (tgt : Int)) (g1 : x ≤ y → xb_G X k n w lv tgt st) (g2 : ¬ x ≤ y → xb_G X k n w lv (pc + 3) st) : xb_G X k n w lv pc (.int y :: .int x :: st) := by
  obtain ⟨p, l, e, R, s, m, args, below, meth, c, A, Q, nL', D'⟩ := X
  obtain ⟨hx, hb, hr, hml, hown, hts, hlk, hK, hE, hA, rfl, rfl, rfl⟩ := C
  intro H locs ls hP hD hS hl
  exact lv_icmp_le hx hb hd ht (fun z => g1 z H locs ls hP hD hS hl) (fun z => g2 z H locs ls hP hD hS hl)
theorem xi_tabIn (C : xb_OK X cc ws own rm ret nL tys D) {dflt lo hi : Int} {offs : Array Int} {len : Nat} {x : Int32} {off : Int} {tgt : Nat} (cst : Int32) (hxc : x = cst) (hd : decode cc pc = .ok (.tableswitch dflt lo hi offs, len)) (h1 : ¬ cst.toInt < lo) (h2 : ¬ hi < cst.toInt) (ho : offs[(cst.toInt - lo).toNat]? = some off) (ht : (pc : Int) + off = (tgt : Int)) (g : xb_G X k n w lv tgt st) : xb_G X k n w lv pc (.int x :: st) := by
  subst hxc
  obtain ⟨p, l, e, R, s, m, args, below, meth, c, A, Q, nL', D'⟩ := X
  obtain ⟨hx, hb, hr, hml, hown, hts, hlk, hK, hE, hA, rfl, rfl, rfl⟩ := C
  intro H locs ls hP hD hS hl
  exact lv_tableIn hx hb hd h1 h2 ho ht (g H locs ls hP hD hS hl)
theorem xi_tabOut (C : xb_OK X cc ws own rm ret nL tys D) {dflt lo hi : Int} {offs : Array Int} {len : Nat} {x : Int32} {tgt : Nat} (hd : decode cc pc = .ok (.tableswitch dflt lo hi offs, len)) (h : x.toInt < lo ∨ hi < x.toInt) (ht : (pc : Int) + dflt = (tgt : Int)) (g : xb_G X k n w lv tgt st) : xb_G X k n w lv pc (.int x :: st) := by
  obtain ⟨p, l, e, R, s, m, args, below, meth, c, A, Q, nL', D'⟩ := X
  obtain ⟨hx, hb, hr, hml, hown, hts, hlk, hK, hE, hA, rfl, rfl, rfl⟩ := C
  intro H locs ls hP hD hS hl
  exact lv_tableOut hx hb hd h ht (g H locs ls hP hD hS hl)
theorem xb_tab {x : Int32} {N : Nat} (hN : N < 2 ^ 31) (h : ∀ j, j < N → ¬ x = nI j) : x.toInt < 0 ∨ (N : Int) - 1 < x.toInt := by
  rcases Int.lt_or_le x.toInt 0 with h0 | h0
  · exact Or.inl h0
  · refine Or.inr ?_
    apply Int.lt_of_not_ge
    intro h1
    have hj : x.toInt.toNat < N := by omega
    refine h _ hj (Int32.toInt_inj.mp ?_)
    rw [nI_toInt (by omega)]
    omega
theorem xb_lv {lv' : List (Nat × Value)} (g : xb_G X k n w lv' pc st) (ks : List Nat) (h : lv_pick lv ks = lv') : xb_G X k n w lv pc st := by
  obtain ⟨p, l, e, R, s, m, args, below, meth, c, A, Q, nL', D'⟩ := X
  intro H locs ls hP hD hS hl
  exact g H locs ls hP hD hS (lv_sub hl ks h)
theorem xb_w {w' : va_W} (h : w = w') (g : xb_G X k n w' lv pc st) : xb_G X k n w lv pc st := h ▸ g
/-- a read of a row, in range -/
def xr_d (f : Nat → Int32) (N : Nat) (i : Int32) : Option Int32 := if 0 ≤ i.toInt ∧ i.toInt < (N : Int) then some (f i.toNatClampNeg) else none
/-- a write -/
def xr_w (f : Nat → Int32) (N : Nat) (i x : Int32) : Option (Nat → Int32) := if 0 ≤ i.toInt ∧ i.toInt < (N : Int) then some (upd f i.toNatClampNeg x) else none
/-- System.arraycopy -/
def xr_c (f : Nat → Int32) (N : Nat) (sp : Int32) (g : Nat → Int32) (M : Nat) (dp z : Int32) : Option (Nat → Int32) := if ¬ sp < 0 ∧ ¬ dp < 0 ∧ ¬ z < 0 ∧ sp.toNatClampNeg + z.toNatClampNeg ≤ N ∧ dp.toNatClampNeg + z.toNatClampNeg ≤ M then some (va_cpy f g sp.toNatClampNeg dp.toNatClampNeg z.toNatClampNeg) else none
/-- a truth value that is handed on -/
def xr_z (x : Int32) : Option Int32 := if x = 0 ∨ x = 1 then some x else none
theorem xr_d_spec {f : Nat → Int32} {N : Nat} {i v : Int32} (h : xr_d f N i = some v) : vp_in i N ∧ f i.toNatClampNeg = v := by
  unfold xr_d at h
  split at h
  · next hc => cases h; exact ⟨vp_in_iff.mpr hc, rfl⟩
  · cases h
theorem xr_w_spec {f f' : Nat → Int32} {N : Nat} {i x : Int32} (h : xr_w f N i x = some f') : vp_in i N ∧ upd f i.toNatClampNeg x = f' := by
  unfold xr_w at h
  split at h
  · next hc => cases h; exact ⟨vp_in_iff.mpr hc, rfl⟩
  · cases h
theorem xr_z_spec {x v : Int32} (h : xr_z x = some v) : narrow .boolean (.int x) = .int x ∧ x = v := by
  unfold xr_z at h
  split at h
  · next hc => cases h; rcases hc with rfl | rfl <;> exact ⟨by decide +kernel, rfl⟩
  · cases h
theorem xi_iald (C : xb_OK X cc ws own rm ret nL tys D) {a N : Nat} {i v : Int32} {f : Nat → Int32} {cA : ClassId} (hd : decode cc pc = .ok (.iaload, 1)) (q0 t0 : Nat) (ha : w[q0]? = some (a, .inl (cA, N, .inl f))) (ht : tys[t0]? = some (cA, .int)) (hv : xr_d f N i = some v) (g : xb_G X k n w lv (pc + 1) (.int v :: st)) : xb_G X k n w lv pc (.int i :: .ref a :: st) := by
  obtain ⟨hin, rfl⟩ := xr_d_spec hv
  obtain ⟨p, l, e, R, s, m, args, below, meth, c, A, Q, nL', D'⟩ := X
  obtain ⟨hx, hb, hr, hml, hown, hts, hlk, hK, hE, hA, rfl, rfl, rfl⟩ := C
  intro H locs ls hP hD hS hl
  exact va_iald hx hb hK hP q0 t0 ha ht hin hd (g H locs ls hP hD hS hl)
theorem xi_cald (C : xb_OK X cc ws own rm ret nL tys D) {a N : Nat} {i v : Int32} {f : Nat → Int32} {cA : ClassId} (hd : decode cc pc = .ok (.caload, 1)) (q0 t0 : Nat) (ha : w[q0]? = some (a, .inl (cA, N, .inl f))) (ht : tys[t0]? = some (cA, .char)) (hv : xr_d f N i = some v) (g : xb_G X k n w lv (pc + 1) (.int v :: st)) : xb_G X k n w lv pc (.int i :: .ref a :: st) := by
  obtain ⟨hin, rfl⟩ := xr_d_spec hv
  obtain ⟨p, l, e, R, s, m, args, below, meth, c, A, Q, nL', D'⟩ := X
  obtain ⟨hx, hb, hr, hml, hown, hts, hlk, hK, hE, hA, rfl, rfl, rfl⟩ := C
  intro H locs ls hP hD hS hl
  exact va_cald hx hb hK hP q0 t0 ha ht hin hd (g H locs ls hP hD hS hl)
theorem xi_zald (C : xb_OK X cc ws own rm ret nL tys D) {a N : Nat} {i v : Int32} {f : Nat → Int32} {cA : ClassId} (hd : decode cc pc = .ok (.baload, 1)) (q0 t0 : Nat) (ha : w[q0]? = some (a, .inl (cA, N, .inl f))) (ht : tys[t0]? = some (cA, .boolean)) (hv : xr_d f N i = some v) (g : xb_G X k n w lv (pc + 1) (.int v :: st)) : xb_G X k n w lv pc (.int i :: .ref a :: st) := by
  obtain ⟨hin, rfl⟩ := xr_d_spec hv
  obtain ⟨p, l, e, R, s, m, args, below, meth, c, A, Q, nL', D'⟩ := X
  obtain ⟨hx, hb, hr, hml, hown, hts, hlk, hK, hE, hA, rfl, rfl, rfl⟩ := C
  intro H locs ls hP hD hS hl
  exact va_zald hx hb hK hP q0 t0 ha ht hin hd (g H locs ls hP hD hS hl)
theorem xi_iast (C : xb_OK X cc ws own rm ret nL tys D) {a N : Nat} {i x : Int32} {f f' : Nat → Int32} {cA : ClassId} {w2 : va_W} (hd : decode cc pc = .ok (.iastore, 1)) (q0 t0 : Nat) (ha : w[q0]? = some (a, .inl (cA, N, .inl f))) (ht : tys[t0]? = some (cA, .int)) (hv : xr_w f N i x = some f') (hw : w.set q0 (a, .inl (cA, N, .inl f')) = w2) (g : xb_G X k n w2 lv (pc + 1) st) : xb_G X k n w lv pc (.int x :: .int i :: .ref a :: st) := by
  subst hw
  obtain ⟨hin, rfl⟩ := xr_w_spec hv
  obtain ⟨p, l, e, R, s, m, args, below, meth, c, A, Q, nL', D'⟩ := X
  obtain ⟨hx, hb, hr, hml, hown, hts, hlk, hK, hE, hA, rfl, rfl, rfl⟩ := C
  intro H locs ls hP hD hS hl
  exact va_iast hx hb hK hP hD hS q0 t0 ha ht hin hd (fun H1 locs1 hP hD hS => g H1 locs1 ls hP hD hS hl)
theorem xi_cast (C : xb_OK X cc ws own rm ret nL tys D) {a N : Nat} {i x : Int32} {f f' : Nat → Int32} {cA : ClassId} {w2 : va_W} (hd : decode cc pc = .ok (.castore, 1)) (q0 t0 : Nat) (ha : w[q0]? = some (a, .inl (cA, N, .inl f))) (ht : tys[t0]? = some (cA, .char)) (hv : xr_w f N i (vp_nar .char x) = some f') (hw : w.set q0 (a, .inl (cA, N, .inl f')) = w2) (g : xb_G X k n w2 lv (pc + 1) st) : xb_G X k n w lv pc (.int x :: .int i :: .ref a :: st) := by
  subst hw
  obtain ⟨hin, rfl⟩ := xr_w_spec hv
  obtain ⟨p, l, e, R, s, m, args, below, meth, c, A, Q, nL', D'⟩ := X
  obtain ⟨hx, hb, hr, hml, hown, hts, hlk, hK, hE, hA, rfl, rfl, rfl⟩ := C
  intro H locs ls hP hD hS hl
  exact va_cast hx hb hK hP hD hS q0 t0 ha ht hin hd (fun H1 locs1 hP hD hS => g H1 locs1 ls hP hD hS hl)
theorem xi_zast (C : xb_OK X cc ws own rm ret nL tys D) {a N : Nat} {i x : Int32} {f f' : Nat → Int32} {cA : ClassId} {w2 : va_W} (hd : decode cc pc = .ok (.bastore, 1)) (q0 t0 : Nat) (ha : w[q0]? = some (a, .inl (cA, N, .inl f))) (ht : tys[t0]? = some (cA, .boolean)) (hv : xr_w f N i (vp_nar .boolean x) = some f') (hw : w.set q0 (a, .inl (cA, N, .inl f')) = w2) (g : xb_G X k n w2 lv (pc + 1) st) : xb_G X k n w lv pc (.int x :: .int i :: .ref a :: st) := by
  subst hw
  obtain ⟨hin, rfl⟩ := xr_w_spec hv
  obtain ⟨p, l, e, R, s, m, args, below, meth, c, A, Q, nL', D'⟩ := X
  obtain ⟨hx, hb, hr, hml, hown, hts, hlk, hK, hE, hA, rfl, rfl, rfl⟩ := C
  intro H locs ls hP hD hS hl
  exact va_zast hx hb hK hP hD hS q0 t0 ha ht hin hd (fun H1 locs1 hP hD hS => g H1 locs1 ls hP hD hS hl)
theorem xi_alen (C : xb_OK X cc ws own rm ret nL tys D) {a : Nat} {x : vp_A} {v : Int32} {cA : ClassId} {ty : FieldType} (hd : decode cc pc = .ok (.arraylength, 1)) (q0 t0 : Nat) (ha : w[q0]? = some (a, .inl (cA, x))) (ht : tys[t0]? = some (cA, ty)) (hv : Int32.ofNat x.1 = v) (g : xb_G X k n w lv (pc + 1) (.int v :: st)) : xb_G X k n w lv pc (.ref a :: st) := by
  obtain ⟨p, l, e, R, s, m, args, below, meth, c, A, Q, nL', D'⟩ := X
  obtain ⟨hx, hb, hr, hml, hown, hts, hlk, hK, hE, hA, rfl, rfl, rfl⟩ := C
  intro H locs ls hP hD hS hl
  exact va_alen hx hb hK hP q0 t0 ha ht hv hd (g H locs ls hP hD hS hl)
theorem xi_get (C : xb_OK X cc ws own rm ret nL tys D) {a ci N index : Nat} {fs : List Value} {v : Value} {cls : String} {T : u_T} (hd : decode cc pc = .ok (.getfield index, 3)) (hin : ∀ w ∈ u_ws cls T N, w ∈ ws) (q0 : Nat) (he : w[q0]? = some (a, .inr (ci, fs))) (hc : vwCl[ci]? = some (cls, T, N)) (j : Nat) (hj : j < N) (hw : Cond.fieldLink own index (T j).1 (T j).2.1 (T j).2.2.1 ∈ ws) (hv : fs[j]? = some v) (g : xb_G X k n w lv (pc + 3) (v :: st)) : xb_G X k n w lv pc (.ref a :: st) := by
  obtain ⟨p, l, e, R, s, m, args, below, meth, c, A, Q, nL', D'⟩ := X
  obtain ⟨hx, hb, hr, hml, hown, hts, hlk, hK, hE, hA, rfl, rfl, rfl⟩ := C
  intro H locs ls hP hD hS hl
  exact va_get hx hb hts hin hown hK hP q0 he hc j hj (hts _ hw) (fun _ h9 => h9) hv hd (g H locs ls hP hD hS hl)
theorem xi_put (C : xb_OK X cc ws own rm ret nL tys D) {a ci N index : Nat} {fs : List Value} {v : Value} {cls : String} {T : u_T} {ty : FieldType} {w2 : va_W} (hd : decode cc pc = .ok (.putfield index, 3)) (hin : ∀ w ∈ u_ws cls T N, w ∈ ws) (ty0 : Nat → FieldType) (hty : ∀ k, k < N → parseFieldDescriptor (T k).2.2.1 = some (ty0 k)) (hnm : ∀ a, a < N → ∀ b, b < N → a ≠ b → (T a).2.1 ≠ (T b).2.1) (q0 : Nat) (he : w[q0]? = some (a, .inr (ci, fs))) (hc : vwCl[ci]? = some (cls, T, N)) (j : Nat) (hj : j < N) (hw : Cond.fieldLink own index (T j).1 (T j).2.1 (T j).2.2.1 ∈ ws) (hfin : (T j).2.2.2 = false) (hdt : parseFieldDescriptor (T j).2.2.1 = some ty) (hn : narrow ty v = v) (hfit : fits ty v = true) (hlen : j < fs.length) (hw2 : w.set q0 (a, .inr (ci, fs.set j v)) = w2) (g : xb_G X k n w2 lv (pc + 3) st) : xb_G X k n w lv pc (v :: .ref a :: st) := by
  subst hw2
  obtain ⟨p, l, e, R, s, m, args, below, meth, c, A, Q, nL', D'⟩ := X
  obtain ⟨hx, hb, hr, hml, hown, hts, hlk, hK, hE, hA, rfl, rfl, rfl⟩ := C
  intro H locs ls hP hD hS hl
  exact va_put hx hb hts hin ty0 hty hnm hown hK hP hD hS q0 he hc j hj (hts _ hw) (fun _ h9 => h9) hfin hdt hn hfit hlen hd (fun H1 locs1 hP hD hS => g H1 locs1 ls hP hD hS hl)
/-! the static row STEPS -/
def xb_stI : Nat → Int32 := fun j => match j with | 0 => -6 | 1 => -1 | 2 => 1 | _ => 6
theorem xb_stI_ok (j : Nat) : xb_st j = .int (xb_stI j) := by
  unfold xb_st xb_stI
  split <;> rfl
def xb_S (X : xb_C) (t : Nat) : Prop := match X with
  | (_, _, _, _, s, _, _, _, _, _, A, _, _, _) => xb_sta A s t
theorem xi_gets (C : xb_OK X cc ws own rm ret nL tys D) {index : Nat} (hd : decode cc pc = .ok (.getstatic index, 3)) (hw : Cond.fieldLink own index "LookupBoard" "STEPS" "[I" ∈ ws) (g : ∀ t : Nat, xb_S X t → xb_G X k n w lv (pc + 3) (.ref t :: st)) : xb_G X k n w lv pc st := by
  obtain ⟨p, l, e, R, s, m, args, below, meth, c, A, Q, nL', D'⟩ := X
  obtain ⟨hx, hb, hr, hml, hown, hts, hlk, hK, hE, hA, rfl, rfl, rfl⟩ := C
  obtain ⟨-, -, t, hE⟩ := hE
  intro H locs ls hP hD hS hl
  exact va_gets hx hb hE.1 hS hown (hts _ hw) (fun _ h => h) hd (g t hE H locs ls hP hD hS hl)
theorem xi_getsN (C : xb_OK X cc ws RX2 rm ret nL tys D) (hd : decode cc pc = .ok (.getstatic 72, 3)) (g : ∀ t : Nat, xb_S X t → xb_G X k n w lv (pc + 3) (.ref t :: st)) : xb_G X k n w lv pc st := by
  obtain ⟨p, l, e, R, s, m, args, below, meth, c, A, Q, nL', D'⟩ := X
  obtain ⟨hx, hb, hr, hml, hown, hts, hlk, hK, hE, hA, rfl, rfl, rfl⟩ := C
  obtain ⟨-, h2, t, hE⟩ := hE
  intro H locs ls hP hD hS hl
  exact va_getsN hx hb hE.1 hS hown (va_Nw.use rfl h2) (fun _ h => h) hd (g t hE H locs ls hP hD hS hl)
theorem xi_sald (C : xb_OK X cc ws own rm ret nL tys D) {t : Nat} {i v : Int32} (hd : decode cc pc = .ok (.iaload, 1)) (ht : xb_S X t) (hv : xr_d xb_stI 4 i = some v) (g : xb_G X k n w lv (pc + 1) (.int v :: st)) : xb_G X k n w lv pc (.int i :: .ref t :: st) := by
  obtain ⟨hin, rfl⟩ := xr_d_spec hv
  obtain ⟨p, l, e, R, s, m, args, below, meth, c, A, Q, nL', D'⟩ := X
  obtain ⟨hx, hb, hr, hml, hown, hts, hlk, hK, hE, hA, rfl, rfl, rfl⟩ := C
  intro H locs ls hP hD hS hl
  exact va_ti hx hb ht.2 hS hin (xb_stI_ok _) hd (g H locs ls hP hD hS hl)
/-! Math, arraycopy -/
theorem xi_mmax (C : xb_OK X cc ws own rm ret nL tys D) {index : Nat} {x y : Int32} (hd : decode cc pc = .ok (.invokestatic index, 3)) (h1 : Cond.methodLink own index Lib.Math.max.name ∈ ws) (h2 : Cond.static Lib.Math.max.name ∈ ws) (h3 : Cond.initialized "java/lang/Math" ∈ ws) (h4 : Cond.code Lib.Math.max.name Lib.Math.max.code 2 (some .int) ∈ ws) (hf : 1 ≤ rm.frames) (hlo : (st.map fun v => v.category).sum + 13 ≤ rm.locals) (hk : k ≤ rm.cells ∧ n ≤ rm.slots) (g : xb_G X k n w lv (pc + 3) (.int (if x < y then y else x) :: st)) : xb_G X k n w lv pc (.int y :: .int x :: st) := by
  obtain ⟨p, l, e, R, s, m, args, below, meth, c, A, Q, nL', D'⟩ := X
  obtain ⟨hx, hb, hr, hml, hown, hts, hlk, hK, hE, hA, rfl, rfl, rfl⟩ := C
  intro H locs ls hP hD hS hl
  exact va_mmax hx hb (hml.trans hl.1.symm) hown (hts _ h1) (hts _ h2) (hts _ h3) (hts _ h4) hf hlo hk.1 hk.2 hd (g H locs ls hP hD hS hl)
theorem xi_mabs (C : xb_OK X cc ws own rm ret nL tys D) {index : Nat} {x : Int32} (hd : decode cc pc = .ok (.invokestatic index, 3)) (h1 : Cond.methodLink own index Lib.Math.abs.name ∈ ws) (h2 : Cond.static Lib.Math.abs.name ∈ ws) (h3 : Cond.initialized "java/lang/Math" ∈ ws) (h4 : Cond.code Lib.Math.abs.name Lib.Math.abs.code 1 (some .int) ∈ ws) (hf : 1 ≤ rm.frames) (hlo : (st.map fun v => v.category).sum + 13 ≤ rm.locals) (hk : k ≤ rm.cells ∧ n ≤ rm.slots) (g : xb_G X k n w lv (pc + 3) (.int (if 0 ≤ x then x else 0 - x) :: st)) : xb_G X k n w lv pc (.int x :: st) := by
  obtain ⟨p, l, e, R, s, m, args, below, meth, c, A, Q, nL', D'⟩ := X
  obtain ⟨hx, hb, hr, hml, hown, hts, hlk, hK, hE, hA, rfl, rfl, rfl⟩ := C
  intro H locs ls hP hD hS hl
  exact va_mabs hx hb (hml.trans hl.1.symm) hown (hts _ h1) (hts _ h2) (hts _ h3) (hts _ h4) hf hlo hk.1 hk.2 hd (g H locs ls hP hD hS hl)
theorem xi_copy (C : xb_OK X cc ws own rm ret nL tys D) {index a a0 N M : Nat} {f g f' : Nat → Int32} {sp dp z : Int32} {c0 : ClassId} {w2 : va_W} (hd : decode cc pc = .ok (.invokestatic index, 3)) (h1 : Cond.methodLink own index arraycopyName ∈ ws) (h2 : Cond.native arraycopyName ∈ ws) (h3 : Cond.static arraycopyName ∈ ws) (h4 : Cond.initialized "java/lang/System" ∈ ws) (q0 q1 t0 : Nat) (ha0 : w[q0]? = some (a0, .inl (c0, N, .inl f))) (ha1 : w[q1]? = some (a, .inl (c0, M, .inl g))) (ht : tys[t0]? = some (c0, .int)) (hv : xr_c f N sp g M dp z = some f') (hf : 1 ≤ rm.frames) (hlo : (st.map fun v => v.category).sum + (nativeFrameWords "java/lang/System" "arraycopy" 5 + 11) ≤ rm.locals) (hw : w.set q1 (a, .inl (c0, M, .inl f')) = w2) (gg : xb_G X k n w2 lv (pc + 3) st) : xb_G X k n w lv pc (.int z :: .int dp :: .ref a :: .int sp :: .ref a0 :: st) := by
  subst hw
  unfold xr_c at hv
  split at hv
  · next hcnd =>
    cases hv
    obtain ⟨g1, g2, g3, g4, g5⟩ := hcnd
    obtain ⟨p, l, e, R, s, m, args, below, meth, c, A, Q, nL', D'⟩ := X
    obtain ⟨hx, hb, hr, hml, hown, hts, hlk, hK, hE, hA, rfl, rfl, rfl⟩ := C
    intro H locs ls hP hD hS hl
    exact va_copyi hx hb (hml.trans hl.1.symm) hown (hts _ h1) (hts _ h2) (hts _ h3) (hts _ h4) hK hP hD hS q0 q1 t0 t0 ha0 ha1 ht ht rfl g1 g2 g3 g4 g5 (fun _ _ => rfl) hf hlo hd (fun H1 locs1 hP hD hS => gg H1 locs1 ls hP hD hS hl)
  · cases hv
/-! ends -/
theorem xi_iret (C : xb_OK X cc ws own rm (some .int) nL tys D) {v : Int32} (Z : xb_Fin X D (some (.int v)) w) (hd : decode cc pc = .ok (.ireturn, 1)) : xb_G X 0 0 w lv pc [.int v] := by
  obtain ⟨p, l, e, R, s, m, args, below, meth, c, A, Q, nL', D'⟩ := X
  obtain ⟨hx, hb, hr, hml, hown, hts, hlk, hK, hE, hA, rfl, rfl, rfl⟩ := C
  have Z : Q = MQ below (xb_Q D' (some (.int v)) w A) args s 0 0 A := Z
  subst Z
  intro H locs ls hP hD hS hl
  exact W.iret hx hb hr (fun t ht _ => ⟨rfl, by rw [ht]; exact hP, hS.F ht⟩) hS.2.2 hd hlk
theorem xi_zret (C : xb_OK X cc ws own rm (some .boolean) nL tys D) {v : Int32} (Z : xb_Fin X D (some (.int v)) w) (hd : decode cc pc = .ok (.ireturn, 1)) (hn : narrow .boolean (.int v) = .int v) : xb_G X 0 0 w lv pc [.int v] := by
  obtain ⟨p, l, e, R, s, m, args, below, meth, c, A, Q, nL', D'⟩ := X
  obtain ⟨hx, hb, hr, hml, hown, hts, hlk, hK, hE, hA, rfl, rfl, rfl⟩ := C
  have Z : Q = MQ below (xb_Q D' (some (.int v)) w A) args s 0 0 A := Z
  subst Z
  intro H locs ls hP hD hS hl
  exact W.zret hx hb hr hn (fun t ht _ => ⟨rfl, by rw [ht]; exact hP, hS.F ht⟩) hS.2.2 hd hlk
theorem xi_ret (C : xb_OK X cc ws own rm none nL tys D) (Z : xb_Fin X D none w) (hd : decode cc pc = .ok (.return_, 1)) : xb_G X 0 0 w lv pc [] := by
  obtain ⟨p, l, e, R, s, m, args, below, meth, c, A, Q, nL', D'⟩ := X
  obtain ⟨hx, hb, hr, hml, hown, hts, hlk, hK, hE, hA, rfl, rfl, rfl⟩ := C
  have Z : Q = MQ below (xb_Q D' none w A) args s 0 0 A := Z
  subst Z
  intro H locs ls hP hD hS hl
  exact W.vret hx hb hr (fun t ht _ => ⟨rfl, by rw [ht]; exact hP, hS.F ht⟩) hS.2.2 hd hlk
/-! calls -/
/-- what is said of a callee once for all -/
def xb_Y (y : MethodName) (cc : ByteArray) (ws : List Cond) (nL : Nat) (ret : Option FieldType) (rm : Room) (na : Nat) : Prop := (∃ ws' : List Cond, ws = Cond.code y cc nL ret :: ws') ∧ plainName y.cls = true ∧ (y.cls ≠ "java/lang/invoke/MethodHandle" ∧ y.cls ≠ "java/lang/invoke/VarHandle" ∧ (parseMethodDescriptor y.desc).map (fun d => d.parameters.length) = some na) ∧ rm.cells = 0 ∧ rm.slots = 0
theorem xb_go {p : Program} {l : Launch} {e : Jvm.Env} {R : Room} {s : State} {m : MethodId} {args : Array Value} {below : List Frame} {meth : Method} {c : Code} {A : Nat → Prop} {Q : State → Prop} {H : Heap} {locs : List Loc} {ls : Array Slot} {rest : List Value} {o : Option Value} {w1 wc w2 : va_W} {a : Array Value}
    (run : va_Run p l e R s m args below meth c H locs k n 0 0 (F0 m pc ls st) rest (xb_Q D o w1 (va_A wc H.size) a) (va_A wc H.size)) (hP : va_P D vwCl w H) (hD : va_D A w) (hS : va_S A s.heap H locs) (hF : ∀ q, va_A wc H.size q → A q) (isC : List Nat) (hC : isC.map (fun i => w[i]?) = wc.map some) (hn : va_nd isC = true) (hw1 : w1.map Prod.fst = wc.map Prod.fst) (hw2 : xb_mix w isC w1 = w2)
    (kk : ∀ (H1 : Heap) (locs1 : List Loc), va_P D vwCl w2 H1 → va_D A w2 → va_S A s.heap H1 locs1 → W p l e R s m args below meth c H1 locs1 k n Q (F0 m (pc + 3) ls (o.toList ++ rest))) : W p l e R s m args below meth c H locs k n Q (F0 m pc ls st) := by
  subst hw2
  intro T hT X
  obtain ⟨v, st₀, t, T', L, h0, X', hL, e1, e2, ⟨hv, hb, hz, hk⟩, stp⟩ := run T hT X
  cases hv
  rw [h0] at hz hk
  obtain ⟨hP2, hD2⟩ := xb_mix_ok hP hD isC hC hn hw1 hk hb
  obtain ⟨t2, a1, b1⟩ := kk t.heap (locs ++ L) hP2 hD2 ⟨Nat.le_trans hS.1 hz, fun q h1 h2 => by rw [hk q (Nat.lt_of_lt_of_le h1 hS.1) (fun z => h2 (hF q z))]; exact hS.2.1 q h1 h2, fun q hq => by
    rcases List.mem_append.mp hq with h | h
    · exact hS.2.2 q h
    · exact hF _ (hL q h)⟩ T' e1 X'
  exact ⟨t2, stp t2 a1, b1⟩
theorem xi_callV (C : xb_OK X cc ws own rm ret nL tys D) {y : MethodName} {bytes : ByteArray} {wsy : List Cond} {maxL index b ci N : Nat} {rety : Option FieldType} {rmy : Room} {tysy : List (ClassId × FieldType)} {As rest fs : List Value} {wc w1 w2 : va_W} {o : Option Value} {T : u_T} (M : xb_M bytes wsy y.cls rmy rety maxL tysy D (.ref b :: As) wc o w1) (Y : xb_Y y bytes wsy maxL rety rmy As.length) (hT : GoodIn ws (wsV own index y.cls y wsy)) (hd : decode cc pc = .ok (.invokevirtual index, 3)) (hR : rmy.frames + 1 ≤ rm.frames ∧ 8 + (maxL + 11) + rmy.locals ≤ rm.locals ∧ (lg_sl (.ref b :: As)).length ≤ maxL) (q0 : Nat) (he : w[q0]? = some (b, .inr (ci, fs))) (hc : vwCl[ci]? = some (y.cls, T, N)) (isC : List Nat) (hC : isC.map (fun i => w[i]?) = wc.map some) (hn : va_nd isC = true) (ts : List Nat) (hts' : ts.filterMap (fun i => tys[i]?) = tysy) (hw1 : w1.map Prod.fst = wc.map Prod.fst) (hw2 : xb_mix w isC w1 = w2) (hst : st = As.reverse ++ .ref b :: rest) (hcat : (rest.map fun v => v.category).sum ≤ 8) (hk : k ≤ rm.cells ∧ n ≤ rm.slots) {st2 : List Value} (hs2 : o.toList ++ rest = st2) (g : xb_G X k n w2 lv (pc + 3) st2) : xb_G X k n w lv pc st := by
  subst hst
  subst hs2
  obtain ⟨p, l, e, R, s, m, args, below, meth, c, A, Q, nL', D'⟩ := X
  obtain ⟨hx, hb, hr, hml, hown, hts, hlk, hK, hE, hA, rfl, rfl, rfl⟩ := C
  obtain ⟨⟨ws', hws⟩, hpl, hy, h01, h02⟩ := Y
  intro H locs ls hP hD hS hl
  have hF := va_free (wc := wc) hD hS hA isC hC
  have hm := xb_met M hpl hws hR.2.2 l H.size
  exact xb_go (va_runV (nL := nL') (As := As) (rest := rest) ⟨hx, hb, hml, hown, hts⟩ hm (cwV As.length hts hT hws h01 h02 ⟨rfl, hy⟩ ⟨hR.1, hR.2.1⟩)
    ⟨xb_W_blind, va_recv hK hP hc he, fun U hU hW => ⟨rfl, by rw [hU], by rw [hU]; exact hP.sub isC (xb_fm hC), va_K.moved hW.alike (hK.sub ts hts'), (hD.sub isC hn hC).weaken (fun _ _ _ _ => trivial), xb_E_to hE hS hU hW hF⟩⟩ rfl rfl hl.1 rfl (lv_room hcat) hd hk)
    hP hD hS hF isC hC hn hw1 hw2 (fun H1 locs1 hP hD hS => g H1 locs1 ls hP hD hS hl)
theorem xi_callS (C : xb_OK X cc ws own rm ret nL tys D) {y : MethodName} {bytes : ByteArray} {wsy : List Cond} {maxL index : Nat} {rety : Option FieldType} {rmy : Room} {tysy : List (ClassId × FieldType)} {As rest : List Value} {wc w1 w2 : va_W} {o : Option Value} (M : xb_M bytes wsy y.cls rmy rety maxL tysy D As wc o w1) (Y : xb_Y y bytes wsy maxL rety rmy As.length) (hT : GoodIn ws (va_wsS own index y wsy)) (hd : decode cc pc = .ok (.invokestatic index, 3)) (hR : rmy.frames + 1 ≤ rm.frames ∧ 8 + (maxL + 11) + rmy.locals ≤ rm.locals ∧ (lg_sl As).length ≤ maxL) (isC : List Nat) (hC : isC.map (fun i => w[i]?) = wc.map some) (hn : va_nd isC = true) (ts : List Nat) (hts' : ts.filterMap (fun i => tys[i]?) = tysy) (hw1 : w1.map Prod.fst = wc.map Prod.fst) (hw2 : xb_mix w isC w1 = w2) (hst : st = As.reverse ++ rest) (hcat : (rest.map fun v => v.category).sum ≤ 8) (hk : k ≤ rm.cells ∧ n ≤ rm.slots) {st2 : List Value} (hs2 : o.toList ++ rest = st2) (g : xb_G X k n w2 lv (pc + 3) st2) : xb_G X k n w lv pc st := by
  subst hst
  subst hs2
  obtain ⟨p, l, e, R, s, m, args, below, meth, c, A, Q, nL', D'⟩ := X
  obtain ⟨hx, hb, hr, hml, hown, hts, hlk, hK, hE, hA, rfl, rfl, rfl⟩ := C
  obtain ⟨⟨ws', hws⟩, hpl, hy, h01, h02⟩ := Y
  intro H locs ls hP hD hS hl
  have hF := va_free (wc := wc) hD hS hA isC hC
  have hm := xb_met M hpl hws hR.2.2 l H.size
  exact xb_go (va_runS (nL := nL') (As := As) (rest := rest) ⟨hx, hb, hml, hown, hts⟩ hm (va_cwS As.length hts hT hws h01 h02 hy ⟨hR.1, hR.2.1⟩)
    ⟨xb_W_blind, fun U hU hW => ⟨rfl, by rw [hU], by rw [hU]; exact hP.sub isC (xb_fm hC), va_K.moved hW.alike (hK.sub ts hts'), (hD.sub isC hn hC).weaken (fun _ _ _ _ => trivial), xb_E_to hE hS hU hW hF⟩⟩ rfl rfl hl.1 rfl (lv_room hcat) hd hk)
    hP hD hS hF isC hC hn hw1 hw2 (fun H1 locs1 hP hD hS => g H1 locs1 ls hP hD hS hl)
theorem xi_callSN (C : xb_OK X cc ws own rm ret nL tys D) {y : MethodName} {bytes : ByteArray} {wsy : List Cond} {maxL index : Nat} {rety : Option FieldType} {rmy : Room} {tysy : List (ClassId × FieldType)} {As rest : List Value} {wc w1 w2 : va_W} {o : Option Value} (M : xb_M bytes wsy y.cls rmy rety maxL tysy D As wc o w1) (Y : xb_Y y bytes wsy maxL rety rmy As.length) (hT : GoodIn ws wsy) (hnl : (own, index, y) ∈ xb_nl) (hini : Cond.initialized y.cls ∈ ws) (hstc : Cond.static y ∈ ws) (hd : decode cc pc = .ok (.invokestatic index, 3)) (hR : rmy.frames + 1 ≤ rm.frames ∧ 8 + (maxL + 11) + rmy.locals ≤ rm.locals ∧ (lg_sl As).length ≤ maxL) (isC : List Nat) (hC : isC.map (fun i => w[i]?) = wc.map some) (hn : va_nd isC = true) (ts : List Nat) (hts' : ts.filterMap (fun i => tys[i]?) = tysy) (hw1 : w1.map Prod.fst = wc.map Prod.fst) (hw2 : xb_mix w isC w1 = w2) (hst : st = As.reverse ++ rest) (hcat : (rest.map fun v => v.category).sum ≤ 8) (hk : k ≤ rm.cells ∧ n ≤ rm.slots) {st2 : List Value} (hs2 : o.toList ++ rest = st2) (g : xb_G X k n w2 lv (pc + 3) st2) : xb_G X k n w lv pc st := by
  subst hst
  subst hs2
  obtain ⟨p, l, e, R, s, m, args, below, meth, c, A, Q, nL', D'⟩ := X
  obtain ⟨hx, hb, hr, hml, hown, hts, hlk, hK, hE, hA, rfl, rfl, rfl⟩ := C
  obtain ⟨⟨ws', hws⟩, hpl, hy, h01, h02⟩ := Y
  intro H locs ls hP hD hS hl
  have hF := va_free (wc := wc) hD hS hA isC hC
  have hm := xb_met M hpl hws hR.2.2 l H.size
  exact xb_go (va_runSN (nL := nL') (As := As) (rest := rest) ⟨hx, hb, hml, hown, hts⟩ hm ⟨va_cnB As.length hts hT hws h01 h02 (hE.1 _ hnl) (hts _ hini) hy ⟨hR.1, hR.2.1⟩, hts _ hstc, trivial⟩
    ⟨xb_W_blind, fun U hU hW => ⟨rfl, by rw [hU], by rw [hU]; exact hP.sub isC (xb_fm hC), va_K.moved hW.alike (hK.sub ts hts'), (hD.sub isC hn hC).weaken (fun _ _ _ _ => trivial), xb_E_to hE hS hU hW hF⟩⟩ rfl rfl hl.1 rfl (lv_room hcat) hd hk)
    hP hD hS hF isC hC hn hw1 hw2 (fun H1 locs1 hP hD hS => g H1 locs1 ls hP hD hS hl)
end XR
/-! what a function with an outcome says, step by step -/
theorem ob_i {α β : Type} {x : Option α} {f : α → Option β} {r : β} (h : x.bind f = some r) : ∃ a, x = some a ∧ f a = some r := by
  cases x with
  | none => cases h
  | some a => exact ⟨a, rfl, h⟩
theorem it_i {c : Prop} [Decidable c] {β : Type} {a b r : β} (hc : c) (h : (if c then a else b) = r) : a = r := by rwa [if_pos hc] at h
theorem ie_i {c : Prop} [Decidable c] {β : Type} {a b r : β} (hc : ¬ c) (h : (if c then a else b) = r) : b = r := by rwa [if_neg hc] at h
end
