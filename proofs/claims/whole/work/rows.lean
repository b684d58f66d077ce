section
-- ===== PART A: goes FIRST, ahead of the names: the tables' words, and 'selects' of the private methods out of them =====
/-- a private method of a class that the tables say can be made, by its rows of tables_1 -/
def lw_okq (q : MethodName × Nat) : Prop := (q.1.cls ≠ "java/lang/invoke/MethodHandle" ∧ q.1.cls ≠ "java/lang/invoke/VarHandle") ∧ Cond.instantiable q.1.cls q.2 ∈ tables_1 ∧ Cond.privateMethod q.1 ∈ tables_1 ∧ Cond.instanceMethod q.1 ∈ tables_1
theorem lw_p0 : lw_okq (⟨"RangePropagator$Analysis", "lookAt", "(LRangePropagator$Program;LRangePropagator$Settings;I)Z"⟩, 3) := ⟨⟨by decide +kernel, by decide +kernel⟩, List.mem_of_getElem? (i := 157) (by decide +kernel), List.mem_of_getElem? (i := 269) (by decide +kernel), List.mem_of_getElem? (i := 270) (by decide +kernel)⟩
theorem lw_p1 : lw_okq (⟨"RangePropagator$Analysis", "gatherIncoming", "(LRangePropagator$Program;I)V"⟩, 3) := ⟨⟨by decide +kernel, by decide +kernel⟩, List.mem_of_getElem? (i := 157) (by decide +kernel), List.mem_of_getElem? (i := 273) (by decide +kernel), List.mem_of_getElem? (i := 274) (by decide +kernel)⟩
theorem lw_p2 : lw_okq (⟨"RangePropagator$Settings", "greatestUpTo", "(I)I"⟩, 4) := ⟨⟨by decide +kernel, by decide +kernel⟩, List.mem_of_getElem? (i := 134) (by decide +kernel), List.mem_of_getElem? (i := 299) (by decide +kernel), List.mem_of_getElem? (i := 300) (by decide +kernel)⟩
theorem lw_p3 : lw_okq (⟨"RangePropagator$Settings", "smallestFrom", "(I)I"⟩, 4) := ⟨⟨by decide +kernel, by decide +kernel⟩, List.mem_of_getElem? (i := 134) (by decide +kernel), List.mem_of_getElem? (i := 304) (by decide +kernel), List.mem_of_getElem? (i := 305) (by decide +kernel)⟩
theorem lw_p4 : lw_okq (⟨"RangePropagator$State", "keepOrdered", "(III)V"⟩, 3) := ⟨⟨by decide +kernel, by decide +kernel⟩, List.mem_of_getElem? (i := 37) (by decide +kernel), List.mem_of_getElem? (i := 354) (by decide +kernel), List.mem_of_getElem? (i := 355) (by decide +kernel)⟩
theorem lw_p5 : lw_okq (⟨"RangePropagator$State", "keepEqual", "(II)V"⟩, 3) := ⟨⟨by decide +kernel, by decide +kernel⟩, List.mem_of_getElem? (i := 37) (by decide +kernel), List.mem_of_getElem? (i := 358) (by decide +kernel), List.mem_of_getElem? (i := 359) (by decide +kernel)⟩
theorem lw_p6 : lw_okq (⟨"RangePropagator$State", "keepUnequal", "(II)V"⟩, 3) := ⟨⟨by decide +kernel, by decide +kernel⟩, List.mem_of_getElem? (i := 37) (by decide +kernel), List.mem_of_getElem? (i := 363) (by decide +kernel), List.mem_of_getElem? (i := 364) (by decide +kernel)⟩
theorem lw_p7 : lw_okq (⟨"RangePropagator$State", "cutOff", "(II)V"⟩, 3) := ⟨⟨by decide +kernel, by decide +kernel⟩, List.mem_of_getElem? (i := 37) (by decide +kernel), List.mem_of_getElem? (i := 371) (by decide +kernel), List.mem_of_getElem? (i := 372) (by decide +kernel)⟩
theorem lw_p8 : lw_okq (⟨"RangePropagator$Analysis", "narrow", "(LRangePropagator$Program;I)V"⟩, 3) := ⟨⟨by decide +kernel, by decide +kernel⟩, List.mem_of_getElem? (i := 157) (by decide +kernel), List.mem_of_getElem? (i := 382) (by decide +kernel), List.mem_of_getElem? (i := 383) (by decide +kernel)⟩
theorem lw_p9 : lw_okq (⟨"RangePropagato\x72", "digestProgram", "(J)J"⟩, 5) := ⟨⟨by decide +kernel, by decide +kernel⟩, List.mem_of_getElem? (i := 21) (by decide +kernel), List.mem_of_getElem? (i := 399) (by decide +kernel), List.mem_of_getElem? (i := 400) (by decide +kernel)⟩
theorem lw_p10 : lw_okq (⟨"RangePropagato\x72", "digestAnalysis", "(J)J"⟩, 5) := ⟨⟨by decide +kernel, by decide +kernel⟩, List.mem_of_getElem? (i := 21) (by decide +kernel), List.mem_of_getElem? (i := 404) (by decide +kernel), List.mem_of_getElem? (i := 405) (by decide +kernel)⟩
theorem lw_p11 : lw_okq (⟨"java/lang/Throwable", "fillInStackTrace", "(I)Ljava/lang/Throwable;"⟩, 6) := ⟨⟨by decide +kernel, by decide +kernel⟩, List.mem_of_getElem? (i := 458) (by decide +kernel), List.mem_of_getElem? (i := 456) (by decide +kernel), List.mem_of_getElem? (i := 457) (by decide +kernel)⟩
theorem lw_p12 : lw_okq (⟨"RangePropagato\x72", "requireBlock", "(I)V"⟩, 5) := ⟨⟨by decide +kernel, by decide +kernel⟩, List.mem_of_getElem? (i := 21) (by decide +kernel), List.mem_of_getElem? (i := 545) (by decide +kernel), List.mem_of_getElem? (i := 546) (by decide +kernel)⟩
theorem lw_p13 : lw_okq (⟨"RangePropagato\x72", "requireRoom", "(I)V"⟩, 5) := ⟨⟨by decide +kernel, by decide +kernel⟩, List.mem_of_getElem? (i := 21) (by decide +kernel), List.mem_of_getElem? (i := 550) (by decide +kernel), List.mem_of_getElem? (i := 551) (by decide +kernel)⟩
theorem lw_p14 : lw_okq (⟨"RangePropagato\x72", "requireAnalysis", "()V"⟩, 5) := ⟨⟨by decide +kernel, by decide +kernel⟩, List.mem_of_getElem? (i := 21) (by decide +kernel), List.mem_of_getElem? (i := 630) (by decide +kernel), List.mem_of_getElem? (i := 631) (by decide +kernel)⟩
theorem lw_p15 : lw_okq (⟨"RangePropagator$Execution", "choose", "(II)I"⟩, 5) := ⟨⟨by decide +kernel, by decide +kernel⟩, List.mem_of_getElem? (i := 206) (by decide +kernel), List.mem_of_getElem? (i := 718) (by decide +kernel), List.mem_of_getElem? (i := 719) (by decide +kernel)⟩
def lw_privs_1 : List (MethodName × Nat) := [(⟨"RangePropagator$Analysis", "lookAt", "(LRangePropagator$Program;LRangePropagator$Settings;I)Z"⟩, 3), (⟨"RangePropagator$Analysis", "gatherIncoming", "(LRangePropagator$Program;I)V"⟩, 3), (⟨"RangePropagator$Settings", "greatestUpTo", "(I)I"⟩, 4), (⟨"RangePropagator$Settings", "smallestFrom", "(I)I"⟩, 4), (⟨"RangePropagator$State", "keepOrdered", "(III)V"⟩, 3), (⟨"RangePropagator$State", "keepEqual", "(II)V"⟩, 3), (⟨"RangePropagator$State", "keepUnequal", "(II)V"⟩, 3), (⟨"RangePropagator$State", "cutOff", "(II)V"⟩, 3), (⟨"RangePropagator$Analysis", "narrow", "(LRangePropagator$Program;I)V"⟩, 3), (⟨"RangePropagato\x72", "digestProgram", "(J)J"⟩, 5), (⟨"RangePropagato\x72", "digestAnalysis", "(J)J"⟩, 5), (⟨"java/lang/Throwable", "fillInStackTrace", "(I)Ljava/lang/Throwable;"⟩, 6), (⟨"RangePropagato\x72", "requireBlock", "(I)V"⟩, 5), (⟨"RangePropagato\x72", "requireRoom", "(I)V"⟩, 5), (⟨"RangePropagato\x72", "requireAnalysis", "()V"⟩, 5), (⟨"RangePropagator$Execution", "choose", "(II)I"⟩, 5)]
theorem lw_r1 : ∀ q ∈ lw_privs_1, lw_okq q := List.forall_mem_cons.mpr ⟨lw_p0, List.forall_mem_cons.mpr ⟨lw_p1, List.forall_mem_cons.mpr ⟨lw_p2, List.forall_mem_cons.mpr ⟨lw_p3, List.forall_mem_cons.mpr ⟨lw_p4, List.forall_mem_cons.mpr ⟨lw_p5, List.forall_mem_cons.mpr ⟨lw_p6, List.forall_mem_cons.mpr ⟨lw_p7, List.forall_mem_cons.mpr ⟨lw_p8, List.forall_mem_cons.mpr ⟨lw_p9, List.forall_mem_cons.mpr ⟨lw_p10, List.forall_mem_cons.mpr ⟨lw_p11, List.forall_mem_cons.mpr ⟨lw_p12, List.forall_mem_cons.mpr ⟨lw_p13, List.forall_mem_cons.mpr ⟨lw_p14, List.forall_mem_cons.mpr ⟨lw_p15, fun _ h => absurd h List.not_mem_nil⟩⟩⟩⟩⟩⟩⟩⟩⟩⟩⟩⟩⟩⟩⟩⟩
theorem lw_p16 : lw_okq (⟨"RangePropagator$Execution", "noteStep", "(II)V"⟩, 5) := ⟨⟨by decide +kernel, by decide +kernel⟩, List.mem_of_getElem? (i := 206) (by decide +kernel), List.mem_of_getElem? (i := 727) (by decide +kernel), List.mem_of_getElem? (i := 728) (by decide +kernel)⟩
theorem lw_p17 : lw_okq (⟨"RangePropagator$Execution", "perform", "(LRangePropagator$Block;)V"⟩, 5) := ⟨⟨by decide +kernel, by decide +kernel⟩, List.mem_of_getElem? (i := 206) (by decide +kernel), List.mem_of_getElem? (i := 732) (by decide +kernel), List.mem_of_getElem? (i := 733) (by decide +kernel)⟩
theorem lw_p18 : lw_okq (⟨"RangePropagator$Execution", "outcomeOf", "(III)I"⟩, 5) := ⟨⟨by decide +kernel, by decide +kernel⟩, List.mem_of_getElem? (i := 206) (by decide +kernel), List.mem_of_getElem? (i := 736) (by decide +kernel), List.mem_of_getElem? (i := 737) (by decide +kernel)⟩
theorem lw_p19 : lw_okq (⟨"RangePropagator$Execution", "followe\x72", "(LRangePropagator$Block;)I"⟩, 5) := ⟨⟨by decide +kernel, by decide +kernel⟩, List.mem_of_getElem? (i := 206) (by decide +kernel), List.mem_of_getElem? (i := 741) (by decide +kernel), List.mem_of_getElem? (i := 742) (by decide +kernel)⟩
theorem lw_p20 : lw_okq (⟨"RangePropagato\x72", "requireStep", "(I)V"⟩, 5) := ⟨⟨by decide +kernel, by decide +kernel⟩, List.mem_of_getElem? (i := 21) (by decide +kernel), List.mem_of_getElem? (i := 753) (by decide +kernel), List.mem_of_getElem? (i := 754) (by decide +kernel)⟩
theorem lw_p21 : lw_okq (⟨"RangePropagatorModel", "fail", "(I)I"⟩, 31) := ⟨⟨by decide +kernel, by decide +kernel⟩, List.mem_of_getElem? (i := 772) (by decide +kernel), List.mem_of_getElem? (i := 881) (by decide +kernel), List.mem_of_getElem? (i := 882) (by decide +kernel)⟩
theorem lw_p22 : lw_okq (⟨"RangePropagatorModel", "isBlock", "(I)Z"⟩, 31) := ⟨⟨by decide +kernel, by decide +kernel⟩, List.mem_of_getElem? (i := 772) (by decide +kernel), List.mem_of_getElem? (i := 901) (by decide +kernel), List.mem_of_getElem? (i := 902) (by decide +kernel)⟩
theorem lw_p23 : lw_okq (⟨"RangePropagatorModel", "append", "(IIIII)I"⟩, 31) := ⟨⟨by decide +kernel, by decide +kernel⟩, List.mem_of_getElem? (i := 772) (by decide +kernel), List.mem_of_getElem? (i := 905) (by decide +kernel), List.mem_of_getElem? (i := 906) (by decide +kernel)⟩
theorem lw_p24 : lw_okq (⟨"RangePropagatorModel", "end", "(IIII)I"⟩, 31) := ⟨⟨by decide +kernel, by decide +kernel⟩, List.mem_of_getElem? (i := 772) (by decide +kernel), List.mem_of_getElem? (i := 917) (by decide +kernel), List.mem_of_getElem? (i := 918) (by decide +kernel)⟩
theorem lw_p25 : lw_okq (⟨"RangePropagatorModel", "look", "(I)Z"⟩, 31) := ⟨⟨by decide +kernel, by decide +kernel⟩, List.mem_of_getElem? (i := 772) (by decide +kernel), List.mem_of_getElem? (i := 945) (by decide +kernel), List.mem_of_getElem? (i := 946) (by decide +kernel)⟩
theorem lw_p26 : lw_okq (⟨"RangePropagatorModel", "gathe\x72", "(I)V"⟩, 31) := ⟨⟨by decide +kernel, by decide +kernel⟩, List.mem_of_getElem? (i := 772) (by decide +kernel), List.mem_of_getElem? (i := 949) (by decide +kernel), List.mem_of_getElem? (i := 950) (by decide +kernel)⟩
theorem lw_p27 : lw_okq (⟨"RangePropagatorModel", "reach", "(II)Z"⟩, 31) := ⟨⟨by decide +kernel, by decide +kernel⟩, List.mem_of_getElem? (i := 772) (by decide +kernel), List.mem_of_getElem? (i := 953) (by decide +kernel), List.mem_of_getElem? (i := 954) (by decide +kernel)⟩
theorem lw_p28 : lw_okq (⟨"RangePropagatorModel", "leave", "(I)V"⟩, 31) := ⟨⟨by decide +kernel, by decide +kernel⟩, List.mem_of_getElem? (i := 772) (by decide +kernel), List.mem_of_getElem? (i := 957) (by decide +kernel), List.mem_of_getElem? (i := 958) (by decide +kernel)⟩
theorem lw_p29 : lw_okq (⟨"RangePropagatorModel", "apply", "(I)V"⟩, 31) := ⟨⟨by decide +kernel, by decide +kernel⟩, List.mem_of_getElem? (i := 772) (by decide +kernel), List.mem_of_getElem? (i := 961) (by decide +kernel), List.mem_of_getElem? (i := 962) (by decide +kernel)⟩
theorem lw_p30 : lw_okq (⟨"RangePropagatorModel", "set", "(IJJ)V"⟩, 31) := ⟨⟨by decide +kernel, by decide +kernel⟩, List.mem_of_getElem? (i := 772) (by decide +kernel), List.mem_of_getElem? (i := 965) (by decide +kernel), List.mem_of_getElem? (i := 966) (by decide +kernel)⟩
theorem lw_p31 : lw_okq (⟨"RangePropagatorModel", "product", "(III)V"⟩, 31) := ⟨⟨by decide +kernel, by decide +kernel⟩, List.mem_of_getElem? (i := 772) (by decide +kernel), List.mem_of_getElem? (i := 976) (by decide +kernel), List.mem_of_getElem? (i := 977) (by decide +kernel)⟩
def lw_privs_2 : List (MethodName × Nat) := [(⟨"RangePropagator$Execution", "noteStep", "(II)V"⟩, 5), (⟨"RangePropagator$Execution", "perform", "(LRangePropagator$Block;)V"⟩, 5), (⟨"RangePropagator$Execution", "outcomeOf", "(III)I"⟩, 5), (⟨"RangePropagator$Execution", "followe\x72", "(LRangePropagator$Block;)I"⟩, 5), (⟨"RangePropagato\x72", "requireStep", "(I)V"⟩, 5), (⟨"RangePropagatorModel", "fail", "(I)I"⟩, 31), (⟨"RangePropagatorModel", "isBlock", "(I)Z"⟩, 31), (⟨"RangePropagatorModel", "append", "(IIIII)I"⟩, 31), (⟨"RangePropagatorModel", "end", "(IIII)I"⟩, 31), (⟨"RangePropagatorModel", "look", "(I)Z"⟩, 31), (⟨"RangePropagatorModel", "gathe\x72", "(I)V"⟩, 31), (⟨"RangePropagatorModel", "reach", "(II)Z"⟩, 31), (⟨"RangePropagatorModel", "leave", "(I)V"⟩, 31), (⟨"RangePropagatorModel", "apply", "(I)V"⟩, 31), (⟨"RangePropagatorModel", "set", "(IJJ)V"⟩, 31), (⟨"RangePropagatorModel", "product", "(III)V"⟩, 31)]
theorem lw_r2 : ∀ q ∈ lw_privs_2, lw_okq q := List.forall_mem_cons.mpr ⟨lw_p16, List.forall_mem_cons.mpr ⟨lw_p17, List.forall_mem_cons.mpr ⟨lw_p18, List.forall_mem_cons.mpr ⟨lw_p19, List.forall_mem_cons.mpr ⟨lw_p20, List.forall_mem_cons.mpr ⟨lw_p21, List.forall_mem_cons.mpr ⟨lw_p22, List.forall_mem_cons.mpr ⟨lw_p23, List.forall_mem_cons.mpr ⟨lw_p24, List.forall_mem_cons.mpr ⟨lw_p25, List.forall_mem_cons.mpr ⟨lw_p26, List.forall_mem_cons.mpr ⟨lw_p27, List.forall_mem_cons.mpr ⟨lw_p28, List.forall_mem_cons.mpr ⟨lw_p29, List.forall_mem_cons.mpr ⟨lw_p30, List.forall_mem_cons.mpr ⟨lw_p31, fun _ h => absurd h List.not_mem_nil⟩⟩⟩⟩⟩⟩⟩⟩⟩⟩⟩⟩⟩⟩⟩⟩
theorem lw_p32 : lw_okq (⟨"RangePropagatorModel", "refine", "(III)V"⟩, 31) := ⟨⟨by decide +kernel, by decide +kernel⟩, List.mem_of_getElem? (i := 772) (by decide +kernel), List.mem_of_getElem? (i := 985) (by decide +kernel), List.mem_of_getElem? (i := 986) (by decide +kernel)⟩
theorem lw_p33 : lw_okq (⟨"RangePropagatorModel", "join", "()V"⟩, 31) := ⟨⟨by decide +kernel, by decide +kernel⟩, List.mem_of_getElem? (i := 772) (by decide +kernel), List.mem_of_getElem? (i := 989) (by decide +kernel), List.mem_of_getElem? (i := 990) (by decide +kernel)⟩
theorem lw_p34 : lw_okq (⟨"RangePropagatorModel", "below", "(I)I"⟩, 31) := ⟨⟨by decide +kernel, by decide +kernel⟩, List.mem_of_getElem? (i := 772) (by decide +kernel), List.mem_of_getElem? (i := 993) (by decide +kernel), List.mem_of_getElem? (i := 994) (by decide +kernel)⟩
theorem lw_p35 : lw_okq (⟨"RangePropagatorModel", "above", "(I)I"⟩, 31) := ⟨⟨by decide +kernel, by decide +kernel⟩, List.mem_of_getElem? (i := 772) (by decide +kernel), List.mem_of_getElem? (i := 997) (by decide +kernel), List.mem_of_getElem? (i := 998) (by decide +kernel)⟩
theorem lw_p36 : lw_okq (⟨"RangePropagatorModel", "narrow", "(I)V"⟩, 31) := ⟨⟨by decide +kernel, by decide +kernel⟩, List.mem_of_getElem? (i := 772) (by decide +kernel), List.mem_of_getElem? (i := 1001) (by decide +kernel), List.mem_of_getElem? (i := 1002) (by decide +kernel)⟩
theorem lw_p37 : lw_okq (⟨"RangePropagatorModel", "asks", "(II)Z"⟩, 31) := ⟨⟨by decide +kernel, by decide +kernel⟩, List.mem_of_getElem? (i := 772) (by decide +kernel), List.mem_of_getElem? (i := 1017) (by decide +kernel), List.mem_of_getElem? (i := 1018) (by decide +kernel)⟩
theorem lw_p38 : lw_okq (⟨"RangePropagatorModel", "draw", "(II)I"⟩, 31) := ⟨⟨by decide +kernel, by decide +kernel⟩, List.mem_of_getElem? (i := 772) (by decide +kernel), List.mem_of_getElem? (i := 1045) (by decide +kernel), List.mem_of_getElem? (i := 1046) (by decide +kernel)⟩
theorem lw_p39 : lw_okq (⟨"RangePropagatorModel", "valueOf", "(I)I"⟩, 31) := ⟨⟨by decide +kernel, by decide +kernel⟩, List.mem_of_getElem? (i := 772) (by decide +kernel), List.mem_of_getElem? (i := 1051) (by decide +kernel), List.mem_of_getElem? (i := 1052) (by decide +kernel)⟩
theorem lw_p40 : lw_okq (⟨"RangePropagatorModel", "isTrue", "(I)Z"⟩, 31) := ⟨⟨by decide +kernel, by decide +kernel⟩, List.mem_of_getElem? (i := 772) (by decide +kernel), List.mem_of_getElem? (i := 1055) (by decide +kernel), List.mem_of_getElem? (i := 1056) (by decide +kernel)⟩
def lw_privs_3 : List (MethodName × Nat) := [(⟨"RangePropagatorModel", "refine", "(III)V"⟩, 31), (⟨"RangePropagatorModel", "join", "()V"⟩, 31), (⟨"RangePropagatorModel", "below", "(I)I"⟩, 31), (⟨"RangePropagatorModel", "above", "(I)I"⟩, 31), (⟨"RangePropagatorModel", "narrow", "(I)V"⟩, 31), (⟨"RangePropagatorModel", "asks", "(II)Z"⟩, 31), (⟨"RangePropagatorModel", "draw", "(II)I"⟩, 31), (⟨"RangePropagatorModel", "valueOf", "(I)I"⟩, 31), (⟨"RangePropagatorModel", "isTrue", "(I)Z"⟩, 31)]
theorem lw_r3 : ∀ q ∈ lw_privs_3, lw_okq q := List.forall_mem_cons.mpr ⟨lw_p32, List.forall_mem_cons.mpr ⟨lw_p33, List.forall_mem_cons.mpr ⟨lw_p34, List.forall_mem_cons.mpr ⟨lw_p35, List.forall_mem_cons.mpr ⟨lw_p36, List.forall_mem_cons.mpr ⟨lw_p37, List.forall_mem_cons.mpr ⟨lw_p38, List.forall_mem_cons.mpr ⟨lw_p39, List.forall_mem_cons.mpr ⟨lw_p40, fun _ h => absurd h List.not_mem_nil⟩⟩⟩⟩⟩⟩⟩⟩⟩
def lw_privs : List (MethodName × Nat) := lw_privs_1 ++ (lw_privs_2 ++ (lw_privs_3))
def lw_tbl : List Cond := k2_sels lw_privs ++ tables_1
theorem lw_privs_ok : ∀ q ∈ lw_privs, lw_okq q := by
  show ∀ q ∈ lw_privs_1 ++ (lw_privs_2 ++ (lw_privs_3)), lw_okq q
  exact List.forall_mem_append.mpr ⟨lw_r1, List.forall_mem_append.mpr ⟨lw_r2, lw_r3⟩⟩
end
section
/-! ===== BEGIN words of one list among another's, by their places ===== -/
theorem goodIn_r {big : List Cond} (ws : List Cond) (ps : List Nat) (hp : ws = ps.filterMap (fun i => big[i]?)) (h : ws.all goodWord = true) : GoodIn big ws := by
  intro w hw
  have h1 := List.all_eq_true.mp h w hw
  rw [hp] at hw
  obtain ⟨i, -, hi⟩ := List.mem_filterMap.mp hw
  have hm : w ∈ big := by first | exact List.mem_of_getElem? hi | exact List.getElem?_mem hi
  exact ⟨hm, good_of_word h1⟩
theorem goodIn_app {big a b : List Cond} (ha : GoodIn big a) (hb : GoodIn big b) : GoodIn big (a ++ b) := fun w h => (List.mem_append.mp h).elim (ha w) (hb w)
theorem goodIn_ca {big a b : List Cond} {c : Cond} (ha : GoodIn big (c :: a)) (hb : GoodIn big b) : GoodIn big (c :: (a ++ b)) := fun w h => (List.mem_cons.mp h).elim (fun e => ha w (List.mem_cons.mpr (Or.inl e))) (fun h => (List.mem_append.mp h).elim (fun h => ha w (List.mem_cons.mpr (Or.inr h))) (hb w))
theorem goodIn_sub {big ws : List Cond} (hm : ∀ w ∈ ws, w ∈ big) (h : ws.all goodWord = true) : GoodIn big ws := fun w hw => ⟨hm w hw, good_of_word (List.all_eq_true.mp h w hw)⟩
/-! ===== END ===== -/

/-! ===== BEGIN exceptions that leave a method, and their catching by the caller (launches without stack traces) ===== -/
section VXA
/-! The laws vx_back, vx_callV, vx_callS, vx_callSW, vx_throw0, vx_throwS follow proofs of the library, with one case more: JvmDerived/Free/Laws.lean (Back.of_free), Shelf42/LK1.lean (callV, callS), Shelf/KitTraced.lean (throwNew0V, throwNewS). -/
/-- where a method has thrown q: the class by its name, the cell, what was written, the world -/
def vx_T (XC : String → State → State → Prop) (st : State) (q : Addr) (t : State) (mc ms : Nat) (free : Addr → Prop) : Prop :=
  ∃ (E : String) (ce : Cell) (L : List Loc), XC E st t ∧ t.heap[q]? = some ce ∧ ce.vm = .none ∧ st.vm.findClass E = some ce.cls ∧ st.WarmedH t.vm ∧ st.sameButNew ({ t with vm := st.vm } : State) L mc ms ∧ ∀ z ∈ L, free z.base
def vx_Q (Qc : Array Value → State → Outcome → State → Prop) (XC : String → State → State → Prop) (mc ms : Nat) (free : Addr → Prop) : Array Value → State → Outcome → State → Prop := fun a st o t =>
  (Qc a st o t ∧ ∃ L, FrameEnd st o t L mc ms ∧ ∀ q ∈ L, free q.base) ∨ ∃ q, o = .threw q ∧ vx_T XC st q t mc ms free
/-- a callee that returns or throws -/
def vx_Met (l : Launch) (y : MethodName) (ws : List Cond) (rm : Room) (Pc : Array Value → State → Prop) (Qc : Array Value → State → Outcome → State → Prop) (XC : String → State → State → Prop) (mc ms : Nat) (free : Addr → Prop) : Prop :=
  MetFree l y (headSpec ws rm) Pc (fun _ _ _ _ _ => True) (vx_Q Qc XC mc ms free)
def vx_Post (XC : String → State → State → Prop) (mc ms : Nat) (free : Addr → Prop) : Pt → Array Value → Addr → Pt → Prop := fun A a q B =>
  ∃ (g : JFrame) (mk : MethodId) (t : State) (L : List Loc) (E : String) (ce : Cell), B.U.heap = t.heap ∧ B.U.vm = t.vm ∧ XC E (A.U.calling g mk a) t ∧ t.heap[q]? = some ce ∧ ce.vm = .none ∧ A.U.vm.findClass E = some ce.cls ∧ B.locs = A.locs ++ L ∧ (∀ z ∈ L, free z.base) ∧ B.cells = A.cells + mc ∧ B.slots = A.slots + ms
def vx_Back (l : Launch) (R : Room) (p : Program) (e : Env) (below : List Frame) (s : State) (sargs : Array Value) (y : MethodName) (len W9 : Nat)
    (Pre : Pt → Array Value → Prop) (Post : Pt → Array Value → Option Value → Pt → Prop) (PostX : Pt → Array Value → Addr → Pt → Prop) : Prop :=
  ∀ (m : MethodId) (meth : Method) (c : Code) (A : Pt) (g : JFrame) (ig : Instr) (mk : MethodId) (a : Array Value),
    Stand p l e R s m sargs below meth c A.U A.locs A.cells A.slots → g.method = m → g.locals.size = c.maxLocals → decode c.code g.pc = .ok (ig, len) →
    2 * g.monitorRoom + (g.stack.map fun v => v.category).sum ≤ W9 → A.U.methodNamed? y = some mk → Pre A a →
    (∃ (v : Option Value) (B : Pt), Stand p l e R s m sargs below meth c B.U B.locs B.cells B.slots ∧ Post A a v B ∧
      Steps p.tables e below (doInvoke e (A.U.setTop g) [] mk a).1 (B.U.setTop { g with pc := g.pc + len, stack := v.toList ++ g.stack })) ∨
    (∃ (q : Addr) (B : Pt), Stand p l e R s m sargs below meth c B.U B.locs B.cells B.slots ∧ PostX A a q B ∧
      Steps p.tables e below (doInvoke e (A.U.setTop g) [] mk a).1 ((B.U.setTop g).pushFrame (.throwing q)))
section Payer
variable {l : Launch} {R : Room} {p : Program} {e : Env} {below : List Frame} {s : State} {sargs : Array Value} {y : MethodName} {len W9 : Nat}
theorem vx_back {ws : List Cond} {rm : Room} {Pc : Array Value → State → Prop} {Qc : Array Value → State → Outcome → State → Prop} {XC : String → State → State → Prop} {mc ms : Nat} {free : Addr → Prop} {bytes : ByteArray} {maxL : Nat} {ret : Option FieldType}
    (hM : vx_Met l y ws rm Pc Qc XC mc ms free) (hblind : FrameBlind Pc) (hrc : rm.cells = mc) (hrs : rm.slots = ms)
    (hframes : rm.frames + 1 ≤ R.frames) (hlocals : W9 + (maxL + 11) + rm.locals ≤ R.locals)
    (hws : ∀ w ∈ ws, ∀ a' U, s.WarmedH U.vm → w.before a' U = true) (hcode : Cond.code y bytes maxL ret ∈ ws) (hinit : ∀ a' U, s.WarmedH U.vm → (Cond.initialized y.cls).before a' U = true) :
    vx_Back l R p e below s sargs y len W9 (PreOf R mc ms Pc) (PostOf Qc mc ms free) (vx_Post XC mc ms free) := by
  intro m meth c A g ig mk a X hg hsize hdg hW hn hp
  have h1 : (headSpec ws rm).pre.before a A.U = true := atoms_intro fun w hw => hws w hw _ _ X.warmed
  have h2 : (Cond.code y bytes maxL ret).before a A.U = true := hws _ hcode _ _ X.warmed
  have h3 : (Cond.initialized y.cls).before a A.U = true := hinit _ _ X.warmed
  have h4 : A.cells + (headSpec ws rm).room.cells ≤ R.cells := by rw [show (headSpec ws rm).room.cells = mc from hrc]; exact hp.1
  have h5 : A.slots + (headSpec ws rm).room.slots ≤ R.slots := by rw [show (headSpec ws rm).room.slots = ms from hrs]; exact hp.2.1
  have hPc : Pc a (A.U.calling g mk a) := hblind _ _ _ _ hp.2.2
  obtain ⟨U, Ls, c0, s0⟩ := A
  dsimp only [Pt.U, Pt.locs, Pt.cells, Pt.slots] at h1 h2 h3 h4 h5 X hn hPc ⊢
  obtain ⟨methY, cY, hmY, hcY, -, hlY, -, -, -, -⟩ := Cond.code_spec hn h2
  obtain ⟨kY, hkY, -⟩ := className_of_methodNamed hn
  have hinitY : kY.init = .initialized := Cond.initialized_spec (findClass_of_methodNamed hn) hkY h3
  have h : At U g.method c below := by rw [hg]; exact X.here
  have hlocals9 : W9 + (maxL + 11) + (headSpec ws rm).room.locals ≤ R.locals := hlocals
  have happ : (headSpec ws rm).appliesLoose y e.platform (U.calling g mk a) = true :=
    Spec.appliesLoose_calling (g := g) h hdg hn hkY hinitY
      (X.room_calling (g := g) (R' := (headSpec ws rm).room) hsize hmY hcY hframes (by rw [hlY]; omega) h4 h5) h1
  obtain ⟨mid, hmid⟩ := h.above
  have hfr : (U.setTop g).frames = (.java g :: mid) ++ below := by rw [State.frames_setTop' g h.top, hmid]; rfl
  obtain ⟨o, s₂, hsteps, -, hend, hq⟩ := Steps.callFree hM p X.admits X.cas X.clock (acts := []) hfr happ hPc trivial
  have hq' : vx_Q Qc XC mc ms free a (U.calling g mk a) o s₂ := hq
  rw [State.frames_setTop' g h.top] at hend
  obtain ⟨g₀, hg0⟩ := Option.isSome_iff_exists.mp h.top
  obtain ⟨r, hr⟩ := State.topJava?_eq_some.mp hg0
  have hr' : (({ U with heap := s₂.heap, slotsUsed := s₂.slotsUsed } : State).setVm s₂.vm).frames = .java g₀ :: r := hr
  rcases hq' with ⟨hqc, L, hfe, hL⟩ | ⟨q, rfl, E, ce, L, hx, hce, hcv, hcl, hW₂, hsm, hL⟩
  · obtain ⟨⟨v, rfl⟩, hW₂, e2, q2, q3, q4, q5, q6⟩ := id hfe
    have e3 : s₂ = ({ (U.calling g mk a).setFrames s₂.frames with heap := s₂.heap, slotsUsed := s₂.slotsUsed } : State).setVm s₂.vm := by
      have : s₂ = ({ s₂ with vm := (U.calling g mk a).vm } : State).setVm s₂.vm := rfl
      rw [e2] at this
      exact this
    obtain ⟨c₂, i₂, len₂, hc₂, hd₂, hf₂⟩ := hend
    have hW' : U.WarmedH s₂.vm := hW₂
    have hcc : c₂ = c := by
      have h1 : s₂.code? g.method = U.code? g.method := by
        rw [State.code?_eq, State.code?_eq, hW'.alike.method?]
      exact Option.some.inj (hc₂.symm.trans (h1.trans h.code))
    subst hcc
    have hlen : len₂ = len := by rw [hdg] at hd₂; cases hd₂; rfl
    subst hlen
    have hs₂ : s₂ = (({ U with heap := s₂.heap, slotsUsed := s₂.slotsUsed } : State).setVm s₂.vm).setTop { g with pc := g.pc + len₂, stack := v.toList ++ g.stack } := by
      refine e3.trans ?_
      rw [hf₂, State.calling_eq h.top, State.setFrames_setFrames, State.setTop_of_frames _ hr', hr]
      rfl
    have hsame : U.sameButNew ({ U with heap := s₂.heap, slotsUsed := s₂.slotsUsed } : State) L mc ms := by
      refine ⟨?_, q2, q3, q4, q5, q6⟩
      obtain ⟨t, ht, -⟩ := State.frames_cons hr
      show ({ U with heap := s₂.heap, slotsUsed := s₂.slotsUsed } : State) = { U.setFrames U.frames with heap := s₂.heap, slotsUsed := s₂.slotsUsed }
      rw [State.setFrames_self ht]
    subst hg
    refine Or.inl ⟨v, ⟨(({ U with heap := s₂.heap, slotsUsed := s₂.slotsUsed } : State).setVm s₂.vm), Ls ++ L, c0 + mc, s0 + ms⟩,
      ⟨X.admits, X.cas, X.clock, X.frames, X.room, X.hears, X.method, X.code, (X.here.setHeapUsed s₂.heap s₂.slotsUsed).setVm hW'.alike, X.tail, State.WarmedH.trans X.warmed hW', X.limits, X.bytes, X.same.trans (hsame.setVm s.vm)⟩,
      ⟨g, mk, s₂, L, rfl, rfl, hqc, rfl, hL, rfl, rfl⟩, ?_⟩
    show Steps p.tables e below _ ((({ U with heap := s₂.heap, slotsUsed := s₂.slotsUsed } : State).setVm s₂.vm).setTop { g with pc := g.pc + len₂, stack := v.toList ++ g.stack })
    rw [← hs₂]
    exact hsteps
  · obtain ⟨e2, q2, q3, q4, q5, q6⟩ := id hsm
    have e3 : s₂ = ({ (U.calling g mk a).setFrames s₂.frames with heap := s₂.heap, slotsUsed := s₂.slotsUsed } : State).setVm s₂.vm := by
      have : s₂ = ({ s₂ with vm := (U.calling g mk a).vm } : State).setVm s₂.vm := rfl
      rw [e2] at this
      exact this
    have hf₂ : s₂.frames = .throwing q :: .java g :: U.frames.tail := hend
    have hW' : U.WarmedH s₂.vm := hW₂
    have hs₂ : s₂ = ((({ U with heap := s₂.heap, slotsUsed := s₂.slotsUsed } : State).setVm s₂.vm).setTop g).pushFrame (.throwing q) := by
      refine e3.trans ?_
      rw [hf₂, State.calling_eq h.top, State.setFrames_setFrames, State.pushFrame, State.frames_setTop _ hr', State.setTop_of_frames _ hr', State.setFrames_setFrames, hr]
      rfl
    have hsame : U.sameButNew ({ U with heap := s₂.heap, slotsUsed := s₂.slotsUsed } : State) L mc ms := by
      refine ⟨?_, q2, q3, q4, q5, q6⟩
      obtain ⟨t, ht, -⟩ := State.frames_cons hr
      show ({ U with heap := s₂.heap, slotsUsed := s₂.slotsUsed } : State) = { U.setFrames U.frames with heap := s₂.heap, slotsUsed := s₂.slotsUsed }
      rw [State.setFrames_self ht]
    subst hg
    refine Or.inr ⟨q, ⟨(({ U with heap := s₂.heap, slotsUsed := s₂.slotsUsed } : State).setVm s₂.vm), Ls ++ L, c0 + mc, s0 + ms⟩,
      ⟨X.admits, X.cas, X.clock, X.frames, X.room, X.hears, X.method, X.code, (X.here.setHeapUsed s₂.heap s₂.slotsUsed).setVm hW'.alike, X.tail, State.WarmedH.trans X.warmed hW', X.limits, X.bytes, X.same.trans (hsame.setVm s.vm)⟩,
      ⟨g, mk, s₂, L, E, ce, rfl, rfl, hx, hce, hcv, hcl, rfl, hL, rfl, rfl⟩, ?_⟩
    show Steps p.tables e below _ (((({ U with heap := s₂.heap, slotsUsed := s₂.slotsUsed } : State).setVm s₂.vm).setTop g).pushFrame (.throwing q))
    rw [← hs₂]
    exact hsteps
end Payer
section Calls
variable {p : Program} {l : Launch} {e : Env} {R : Room} {s : State} {m : MethodId} {args : Array Value} {below : List Frame} {meth : Method} {c : Code} {T : State} {locs : List Loc} {cells slots : Nat}
theorem vx_callV (X : Stand p l e R s m args below meth c T locs cells slots) (hexec : p.tables.exec = Jvm.exec) {own C : String} {index : Nat} {y : MethodName} {bytes : ByteArray} {maxL : Nat} {ret : Option FieldType}
    (hown : s.vm.findClass own = some m.cls) (hlink : (Cond.methodLink own index y).before args s = true) (hinst : (Cond.instanceMethod y).before args s = true) (hsel : (Cond.selects C y y).before args s = true)
    (hcode : (Cond.code y bytes maxL ret).before args s = true) (hy : y.cls ≠ "java/lang/invoke/MethodHandle" ∧ y.cls ≠ "java/lang/invoke/VarHandle")
    {W9 : Nat} {Pre : Pt → Array Value → Prop} {Post : Pt → Array Value → Option Value → Pt → Prop} {PostX : Pt → Array Value → Addr → Pt → Prop} (hK : vx_Back l R p e below s args y 3 W9 Pre Post PostX)
    {b : Addr} {cellB : Cell} (hcell : T.heap[b]? = some cellB) (hobj : cellB.vm.isStatics = false) (hcls : s.vm.findClass C = some cellB.cls)
    {g : JFrame} (hg : g.method = m) (hsize : g.locals.size = c.maxLocals) {argsL rest : List Value} (hlen : ∀ sig, parseMethodDescriptor y.desc = some sig → argsL.length = sig.parameters.length)
    (hstack : g.stack = argsL.reverse ++ .ref b :: rest) (hW : 2 * g.monitorRoom + (rest.map fun v => v.category).sum ≤ W9) (hdg : decode c.code g.pc = .ok (.invokevirtual index, 3))
    (hpre : ∀ vm₁, s.WarmedH vm₁ → Pre ⟨T.setVm vm₁, locs, cells, slots⟩ (Value.ref b :: argsL).toArray) :
    (∃ (v : Option Value) (vm₁ : Vm) (B : Pt), s.WarmedH vm₁ ∧ Stand p l e R s m args below meth c B.U B.locs B.cells B.slots ∧ Post ⟨T.setVm vm₁, locs, cells, slots⟩ (Value.ref b :: argsL).toArray v B ∧
      ∀ target, Steps p.tables e below (B.U.setTop { g with pc := g.pc + 3, stack := v.toList ++ rest }) target → Steps p.tables e below (T.setTop g) target) ∨
    (∃ (q : Addr) (vm₁ : Vm) (B : Pt), s.WarmedH vm₁ ∧ Stand p l e R s m args below meth c B.U B.locs B.cells B.slots ∧ PostX ⟨T.setVm vm₁, locs, cells, slots⟩ (Value.ref b :: argsL).toArray q B ∧
      Steps p.tables e below (T.setTop g) ((B.U.setTop { g with stack := rest }).pushFrame (.throwing q))) := by
  obtain ⟨mk, methM, hnamed, hmethM, hstM, habM⟩ := Cond.instanceMethod_spec hinst
  obtain ⟨methM', cM, hmethM', -, -, -, -, -, -, hsigM⟩ := Cond.code_spec hnamed hcode
  cases hmethM.symm.trans hmethM'
  obtain ⟨c2, r2, m2, q1, q2, q3, q4, kP, hkP, hkPi⟩ := Cond.selects_spec hsel
  cases hcls.symm.trans q1
  cases (State.methodFound?_of_named hnamed hy).symm.trans q2
  cases hnamed.symm.trans q3
  have hselP : selectMethod e.platform s.vm cellB.cls mk = .method mk := by rw [Launch.admits_selectMethod X.admits]; exact q4
  obtain ⟨vm₁, X₁, hstep₁⟩ := X.invokevirtual hexec hown hlink hnamed hmethM hstM hkP hkPi hy (a := b) (cell := cellB) hcell
    (fun z h => by rw [h] at hobj; cases hobj) hselP hmethM habM hkP hkPi (g := g) hg (argsL := argsL) (rest := rest) (hlen _ hsigM) hstack hdg
  rcases hK m meth c ⟨T.setVm vm₁, locs, cells, slots⟩ { g with stack := rest } (.invokevirtual index) mk (Value.ref b :: argsL).toArray X₁ hg hsize hdg hW (X₁.named hnamed) (hpre vm₁ X₁.warmed) with ⟨v, B, X', hpost, hsteps⟩ | ⟨q, B, X', hpost, hsteps⟩
  · exact Or.inl ⟨v, vm₁, B, X₁.warmed, X', hpost, fun target h => hstep₁ _ fun acts => by rw [doInvoke_state]; exact hsteps.trans h⟩
  · exact Or.inr ⟨q, vm₁, B, X₁.warmed, X', hpost, hstep₁ _ fun acts => by rw [doInvoke_state]; exact hsteps⟩
theorem vx_callS (X : Stand p l e R s m args below meth c T locs cells slots) (hexec : p.tables.exec = Jvm.exec) {own : String} {index : Nat} {y : MethodName} {bytes : ByteArray} {maxL : Nat} {ret : Option FieldType}
    (hown : s.vm.findClass own = some m.cls) (hlink : (Cond.methodLink own index y).before args s = true) (hstat : (Cond.static y).before args s = true) (hinit : (Cond.initialized y.cls).before args s = true)
    (hcode : (Cond.code y bytes maxL ret).before args s = true) (hy : y.cls ≠ "java/lang/invoke/MethodHandle" ∧ y.cls ≠ "java/lang/invoke/VarHandle")
    {W9 : Nat} {Pre : Pt → Array Value → Prop} {Post : Pt → Array Value → Option Value → Pt → Prop} {PostX : Pt → Array Value → Addr → Pt → Prop} (hK : vx_Back l R p e below s args y 3 W9 Pre Post PostX)
    {g : JFrame} (hg : g.method = m) (hsize : g.locals.size = c.maxLocals) {argsL rest : List Value} (hlen : ∀ sig, parseMethodDescriptor y.desc = some sig → argsL.length = sig.parameters.length)
    (hstack : g.stack = argsL.reverse ++ rest) (hW : 2 * g.monitorRoom + (rest.map fun v => v.category).sum ≤ W9) (hdg : decode c.code g.pc = .ok (.invokestatic index, 3))
    (hpre : ∀ vm₁, s.WarmedH vm₁ → Pre ⟨T.setVm vm₁, locs, cells, slots⟩ argsL.toArray) :
    (∃ (v : Option Value) (vm₁ : Vm) (B : Pt), s.WarmedH vm₁ ∧ Stand p l e R s m args below meth c B.U B.locs B.cells B.slots ∧ Post ⟨T.setVm vm₁, locs, cells, slots⟩ argsL.toArray v B ∧
      ∀ target, Steps p.tables e below (B.U.setTop { g with pc := g.pc + 3, stack := v.toList ++ rest }) target → Steps p.tables e below (T.setTop g) target) ∨
    (∃ (q : Addr) (vm₁ : Vm) (B : Pt), s.WarmedH vm₁ ∧ Stand p l e R s m args below meth c B.U B.locs B.cells B.slots ∧ PostX ⟨T.setVm vm₁, locs, cells, slots⟩ argsL.toArray q B ∧
      Steps p.tables e below (T.setTop g) ((B.U.setTop { g with stack := rest }).pushFrame (.throwing q))) := by
  obtain ⟨mk, hnamed⟩ := Cond.code_named hcode
  obtain ⟨methM, cM, hmethM, -, -, -, -, -, -, hsigM⟩ := Cond.code_spec hnamed hcode
  have hstatic : methM.isStatic = true := Cond.static_spec hnamed hmethM hstat
  obtain ⟨kP, hkP, -⟩ := className_of_methodNamed hnamed
  have hinitP : kP.init = .initialized := Cond.initialized_spec (findClass_of_methodNamed hnamed) hkP hinit
  obtain ⟨vm₁, X₁, hstep₁⟩ := X.invokestatic hexec hown hlink hnamed hmethM hstatic hkP hinitP hy (g := g) hg (argsL := argsL) (rest := rest) (hlen _ hsigM) hstack hdg
  rcases hK m meth c ⟨T.setVm vm₁, locs, cells, slots⟩ { g with stack := rest } (.invokestatic index) mk argsL.toArray X₁ hg hsize hdg hW (X₁.named hnamed) (hpre vm₁ X₁.warmed) with ⟨v, B, X', hpost, hsteps⟩ | ⟨q, B, X', hpost, hsteps⟩
  · exact Or.inl ⟨v, vm₁, B, X₁.warmed, X', hpost, fun target h => hstep₁ _ fun acts => by rw [doInvoke_state]; exact hsteps.trans h⟩
  · exact Or.inr ⟨q, vm₁, B, X₁.warmed, X', hpost, hstep₁ _ fun acts => by rw [doInvoke_state]; exact hsteps⟩
end Calls
theorem vx_cls {s : State} {T : State} {vm₁ : Vm} {E : String} {k : ClassId} (hW : s.WarmedH vm₁) (h : (T.setVm vm₁).vm.findClass E = some k) : s.vm.findClass E = some k := by
  have h1 : vm₁.findClass E = some k := h
  rw [hW.alike.findClass] at h1
  exact h1
/-- the method's frame g, with q thrown over it -/
def vx_W (p : Program) (l : Launch) (e : Env) (R : Room) (s : State) (m : MethodId) (args : Array Value) (below : List Frame) (meth : Method) (c : Code) (H : Heap) (locs : List Loc) (cells slots : Nat) (Q : State → Prop) (g : JFrame) (q : Addr) : Prop :=
  ∀ T : State, T.heap = H → Stand p l e R s m args below meth c T locs cells slots → ∃ t, Steps p.tables e below ((T.setTop g).pushFrame (.throwing q)) t ∧ Q t
def vx_Run (p : Program) (l : Launch) (e : Env) (R : Room) (s : State) (m : MethodId) (args : Array Value) (below : List Frame) (meth : Method) (c : Code) (H : Heap) (locs : List Loc) (cells slots mc ms : Nat) (g : JFrame) (rest : List Value) (Qa : State → Outcome → State → Prop) (XC : String → State → State → Prop) (free : Addr → Prop) : Prop :=
  ∀ T : State, T.heap = H → Stand p l e R s m args below meth c T locs cells slots →
    (∃ (v : Option Value) (st₀ t T' : State) (L : List Loc), st₀.heap = H ∧ Stand p l e R s m args below meth c T' (locs ++ L) (cells + mc) (slots + ms) ∧ (∀ q ∈ L, free q.base) ∧ T'.heap = t.heap ∧ T'.vm = t.vm ∧ Qa st₀ (.returned v) t ∧
      Goes p e below T g T' { g with pc := g.pc + 3, stack := v.toList ++ rest }) ∨
    (∃ (q : Addr) (st₀ t T' : State) (L : List Loc) (E : String) (ce : Cell), st₀.heap = H ∧ Stand p l e R s m args below meth c T' (locs ++ L) (cells + mc) (slots + ms) ∧ (∀ z ∈ L, free z.base) ∧ T'.heap = t.heap ∧ T'.vm = t.vm ∧ XC E st₀ t ∧ t.heap[q]? = some ce ∧ ce.vm = .none ∧ s.vm.findClass E = some ce.cls ∧
      Steps p.tables e below (T.setTop g) ((T'.setTop { g with stack := rest }).pushFrame (.throwing q)))
def vx_X {S : Type} (px : S → Prop) (B : String → S → State → Prop) (A : Nat → Prop) : String → State → State → Prop := fun E st t => ∃ u : S, px u ∧ B E u t ∧ va_F A st t
section Runs
variable {p : Program} {l : Launch} {e : Env} {R : Room} {s : State} {m : MethodId} {args : Array Value} {below : List Frame} {meth : Method} {c : Code} {H : Heap} {locs : List Loc} {cells slots : Nat}
variable {y : MethodName} {bytes cc : ByteArray} {maxL nL mc ms n index : Nat} {ret : Option FieldType} {ws : List Cond} {rm : Room} {Pc : Array Value → State → Prop} {Qc : Array Value → State → Outcome → State → Prop} {XC : String → State → State → Prop} {free : Addr → Prop} {Ts : List Cond} {own C : String} {b : Addr} {As rest : List Value} {g : JFrame}
theorem vx_callBack (cb : CallB R s args own index y bytes maxL ret ws rm mc ms n) (hM : vx_Met l y ws rm Pc Qc XC mc ms free) (hbl : FrameBlind Pc) : vx_Back l R p e below s args y 3 8 (PreOf R mc ms Pc) (PostOf Qc mc ms free) (vx_Post XC mc ms free) := by
  obtain ⟨hrc, hrs, hfr, hlo, hws, hcw, -, hini, -⟩ := cb
  exact vx_back (bytes := bytes) (maxL := maxL) (ret := ret) hM hbl hrc hrs hfr hlo hws hcw (fun a' U hW => word_at hW (Or.inl (by first | rfl | simp [Cond.onTables, Cond.keeps, Cond.steady])) hini)
theorem vx_runV (S : CallFix p m c cc nL s args Ts own) (hM : vx_Met l y ws rm Pc Qc XC mc ms free) (cw : CallW R s args own C index y bytes maxL ret ws rm mc ms n) (hp : PreV s H C b Pc As)
    (hg : g.method = m) (hn : As.length = n) (hsize : g.locals.size = nL) (hstack : g.stack = As.reverse ++ .ref b :: rest) (hW : 2 * g.monitorRoom + (rest.map fun v => v.category).sum ≤ 8) (hdg : decode cc g.pc = .ok (.invokevirtual index, 3)) (hf : cells + mc ≤ R.cells ∧ slots + ms ≤ R.slots) :
    vx_Run p l e R s m args below meth c H locs cells slots mc ms g rest (Qc (Value.ref b :: As).toArray) XC free := by
  have hK : vx_Back l R p e below s args y 3 8 (PreOf R mc ms Pc) (PostOf Qc mc ms free) (vx_Post XC mc ms free) := vx_callBack cw.1 hM hp.1
  obtain ⟨⟨-, -, -, -, -, -, hcode, -, hy, hlen, hl⟩, hin, hse⟩ := cw
  obtain ⟨hx, hb, hml, ho, -⟩ := S
  obtain ⟨-, ⟨cellB, hcB, hoB, hclB⟩, hPc⟩ := hp
  intro T hT X
  rcases vx_callV X hx (C := C) (bytes := bytes) (maxL := maxL) (ret := ret) ho hl hin hse hcode hy hK (by rw [hT]; exact hcB) hoB hclB hg (hsize.trans hml.symm) (argsL := As) (rest := rest) (fun sig h => hn.trans (hlen sig h)) hstack hW (by rw [hb]; exact hdg)
    (fun vm₁ hW₁ => ⟨hf.1, hf.2, hPc (T.setVm vm₁) hT hW₁⟩) with ⟨v, vm₁, ⟨U', l2, c2, s2⟩, hW₁, X', ⟨g', mk, t, L, e1, e2, hq, h1, hL, h2, h3⟩, st⟩ | ⟨q, vm₁, ⟨U', l2, c2, s2⟩, hW₁, X', ⟨g', mk, t, L, E, ce, e1, e2, hq, hce, hcv, hcl, h1, hL, h2, h3⟩, st⟩
  · dsimp only [Pt.U, Pt.locs, Pt.cells, Pt.slots] at X' e1 e2 h1 h2 h3 st
    subst h1; subst h2; subst h3
    exact Or.inl ⟨v, (T.setVm vm₁).calling g' mk (Value.ref b :: As).toArray, t, U', L, hT, X', hL, e1, e2, hq, st⟩
  · dsimp only [Pt.U, Pt.locs, Pt.cells, Pt.slots] at X' e1 e2 h1 h2 h3 st hcl
    subst h1; subst h2; subst h3
    exact Or.inr ⟨q, (T.setVm vm₁).calling g' mk (Value.ref b :: As).toArray, t, U', L, E, ce, hT, X', hL, e1, e2, hq, hce, hcv, vx_cls hW₁ hcl, st⟩
theorem vx_runS (S : CallFix p m c cc nL s args Ts own) (hM : vx_Met l y ws rm Pc Qc XC mc ms free) (cw : CallB R s args own index y bytes maxL ret ws rm mc ms n ∧ (Cond.static y).before args s = true) (hp : PreS s H Pc As)
    (hg : g.method = m) (hn : As.length = n) (hsize : g.locals.size = nL) (hstack : g.stack = As.reverse ++ rest) (hW : 2 * g.monitorRoom + (rest.map fun v => v.category).sum ≤ 8) (hdg : decode cc g.pc = .ok (.invokestatic index, 3)) (hf : cells + mc ≤ R.cells ∧ slots + ms ≤ R.slots) :
    vx_Run p l e R s m args below meth c H locs cells slots mc ms g rest (Qc As.toArray) XC free := by
  have hK : vx_Back l R p e below s args y 3 8 (PreOf R mc ms Pc) (PostOf Qc mc ms free) (vx_Post XC mc ms free) := vx_callBack cw.1 hM hp.1
  obtain ⟨⟨-, -, -, -, -, -, hcode, hini, hy, hlen, hl⟩, hstt⟩ := cw
  obtain ⟨hx, hb, hml, ho, -⟩ := S
  intro T hT X
  rcases vx_callS X hx (bytes := bytes) (maxL := maxL) (ret := ret) ho hl hstt hini hcode hy hK hg (hsize.trans hml.symm) (argsL := As) (rest := rest) (fun sig h => hn.trans (hlen sig h)) hstack hW (by rw [hb]; exact hdg)
    (fun vm₁ hW₁ => ⟨hf.1, hf.2, hp.2 (T.setVm vm₁) hT hW₁⟩) with ⟨v, vm₁, ⟨U', l2, c2, s2⟩, hW₁, X', ⟨g', mk, t, L, e1, e2, hq, h1, hL, h2, h3⟩, st⟩ | ⟨q, vm₁, ⟨U', l2, c2, s2⟩, hW₁, X', ⟨g', mk, t, L, E, ce, e1, e2, hq, hce, hcv, hcl, h1, hL, h2, h3⟩, st⟩
  · dsimp only [Pt.U, Pt.locs, Pt.cells, Pt.slots] at X' e1 e2 h1 h2 h3 st
    subst h1; subst h2; subst h3
    exact Or.inl ⟨v, (T.setVm vm₁).calling g' mk As.toArray, t, U', L, hT, X', hL, e1, e2, hq, st⟩
  · dsimp only [Pt.U, Pt.locs, Pt.cells, Pt.slots] at X' e1 e2 h1 h2 h3 st hcl
    subst h1; subst h2; subst h3
    exact Or.inr ⟨q, (T.setVm vm₁).calling g' mk As.toArray, t, U', L, E, ce, hT, X', hL, e1, e2, hq, hce, hcv, vx_cls hW₁ hcl, st⟩
end Runs
section Rows
variable {p : Program} {l : Launch} {e : Env} {R : Room} {s : State} {m : MethodId} {args : Array Value} {below : List Frame} {meth : Method} {c : Code} {H : Heap} {locs : List Loc} {cells slots : Nat} {Q : State → Prop}
variable {mc ms : Nat} {free : Addr → Prop} {A0 A1 : Nat → Prop} {H0 : Heap} {a : Array Value} {pc : Nat} {ls : Array Slot} {st0 rest : List Value}
theorem vx_keep {st₀ t T' : State} {L : List Loc} (h0 : st₀.heap = H) (e1 : T'.heap = t.heap) (hS : va_S A0 H0 H locs) (hA : ∀ q, q < H.size → A1 q → A0 q) (hf : ∀ q, free q → A0 q) (hL : ∀ q ∈ L, free q.base) (hF : va_F A1 st₀ t) :
    H.size ≤ T'.heap.size ∧ (∀ q : Nat, q < H.size → ¬ A1 q → T'.heap[q]? = H[q]?) ∧ va_S A0 H0 T'.heap (locs ++ L) := by
  obtain ⟨hz, hk⟩ := hF
  rw [h0] at hz hk
  exact ⟨by rw [e1]; exact hz, fun q h1 h2 => by rw [e1]; exact hk q h1 h2,
    ⟨Nat.le_trans hS.1 (by rw [e1]; exact hz), fun q h1 h2 => by rw [e1, hk q (Nat.lt_of_lt_of_le h1 hS.1) (fun z => h2 (hA q (Nat.lt_of_lt_of_le h1 hS.1) z))]; exact hS.2.1 q h1 h2, fun q hq => by
      rcases List.mem_append.mp hq with h | h
      · exact hS.2.2 q h
      · exact hf _ (hL q h)⟩⟩
theorem vx_calli {S SX : Type} {post : Int32 → S → Prop} {px : SX → Prop} {B : S → State → Prop} {BX : String → SX → State → Prop} {AX : Nat → Prop} (hr : vx_Run p l e R s m args below meth c H locs cells slots mc ms (F0 m pc ls st0) rest (va_Qi post B A1 a) (vx_X px BX AX) free) (hS : va_S A0 H0 H locs) (hA : ∀ q, q < H.size → A1 q → A0 q) (hf : ∀ q, free q → A0 q) (hAX : ∀ q, q < H.size → AX q → A0 q)
    (kx : ∀ (E : String) (ce : Cell) (q9 : Addr) (u : SX) (t : State) (H1 : Heap) (locs1 : List Loc), t.heap = H1 → s.vm.Alike t.vm → px u → BX E u t → H.size ≤ H1.size → (∀ q : Nat, q < H.size → ¬ AX q → H1[q]? = H[q]?) → va_S A0 H0 H1 locs1 → H1[q9]? = some ce → ce.vm = .none → s.vm.findClass E = some ce.cls → vx_W p l e R s m args below meth c H1 locs1 (cells + mc) (slots + ms) Q (F0 m pc ls rest) q9)
    (kk : ∀ (r : Int32) (u : S) (t : State) (H1 : Heap) (locs1 : List Loc), t.heap = H1 → s.vm.Alike t.vm → post r u → B u t → H.size ≤ H1.size → (∀ q : Nat, q < H.size → ¬ A1 q → H1[q]? = H[q]?) → va_S A0 H0 H1 locs1 → W p l e R s m args below meth c H1 locs1 (cells + mc) (slots + ms) Q (F0 m (pc + 3) ls (.int r :: rest))) : W p l e R s m args below meth c H locs cells slots Q (F0 m pc ls st0) := by
  intro T hT X
  rcases hr T hT X with ⟨v, st₀, t, T', L, h0, X', hL, e1, e2, ⟨⟨r, u, hv, hp, hb⟩, hF⟩, st⟩ | ⟨q, st₀, t, T', L, E, ce, h0, X', hL, e1, e2, ⟨u, hp, hb, hF⟩, hce, hcv, hcl, st⟩
  · cases hv
    obtain ⟨k1, k2, k3⟩ := vx_keep h0 e1 hS hA hf hL hF
    obtain ⟨t2, a1, b1⟩ := kk r u t T'.heap (locs ++ L) e1.symm (by rw [← e2]; exact X'.warmed.alike) hp hb k1 k2 k3 T' rfl X'
    exact ⟨t2, st t2 a1, b1⟩
  · obtain ⟨k1, k2, k3⟩ := vx_keep h0 e1 hS hAX hf hL hF
    obtain ⟨t2, a1, b1⟩ := kx E ce q u t T'.heap (locs ++ L) e1.symm (by rw [← e2]; exact X'.warmed.alike) hp hb k1 k2 k3 (by rw [e1]; exact hce) hcv hcl T' rfl X'
    exact ⟨t2, st.trans a1, b1⟩
theorem vx_calll {S SX : Type} {post : Int64 → S → Prop} {px : SX → Prop} {B : S → State → Prop} {BX : String → SX → State → Prop} {AX : Nat → Prop} (hr : vx_Run p l e R s m args below meth c H locs cells slots mc ms (F0 m pc ls st0) rest (va_Ql post B A1 a) (vx_X px BX AX) free) (hS : va_S A0 H0 H locs) (hA : ∀ q, q < H.size → A1 q → A0 q) (hf : ∀ q, free q → A0 q) (hAX : ∀ q, q < H.size → AX q → A0 q)
    (kx : ∀ (E : String) (ce : Cell) (q9 : Addr) (u : SX) (t : State) (H1 : Heap) (locs1 : List Loc), t.heap = H1 → s.vm.Alike t.vm → px u → BX E u t → H.size ≤ H1.size → (∀ q : Nat, q < H.size → ¬ AX q → H1[q]? = H[q]?) → va_S A0 H0 H1 locs1 → H1[q9]? = some ce → ce.vm = .none → s.vm.findClass E = some ce.cls → vx_W p l e R s m args below meth c H1 locs1 (cells + mc) (slots + ms) Q (F0 m pc ls rest) q9)
    (kk : ∀ (r : Int64) (u : S) (t : State) (H1 : Heap) (locs1 : List Loc), t.heap = H1 → s.vm.Alike t.vm → post r u → B u t → H.size ≤ H1.size → (∀ q : Nat, q < H.size → ¬ A1 q → H1[q]? = H[q]?) → va_S A0 H0 H1 locs1 → W p l e R s m args below meth c H1 locs1 (cells + mc) (slots + ms) Q (F0 m (pc + 3) ls (.long r :: rest))) : W p l e R s m args below meth c H locs cells slots Q (F0 m pc ls st0) := by
  intro T hT X
  rcases hr T hT X with ⟨v, st₀, t, T', L, h0, X', hL, e1, e2, ⟨⟨r, u, hv, hp, hb⟩, hF⟩, st⟩ | ⟨q, st₀, t, T', L, E, ce, h0, X', hL, e1, e2, ⟨u, hp, hb, hF⟩, hce, hcv, hcl, st⟩
  · cases hv
    obtain ⟨k1, k2, k3⟩ := vx_keep h0 e1 hS hA hf hL hF
    obtain ⟨t2, a1, b1⟩ := kk r u t T'.heap (locs ++ L) e1.symm (by rw [← e2]; exact X'.warmed.alike) hp hb k1 k2 k3 T' rfl X'
    exact ⟨t2, st t2 a1, b1⟩
  · obtain ⟨k1, k2, k3⟩ := vx_keep h0 e1 hS hAX hf hL hF
    obtain ⟨t2, a1, b1⟩ := kx E ce q u t T'.heap (locs ++ L) e1.symm (by rw [← e2]; exact X'.warmed.alike) hp hb k1 k2 k3 (by rw [e1]; exact hce) hcv hcl T' rfl X'
    exact ⟨t2, st.trans a1, b1⟩
theorem vx_callf {S SX : Type} {post : UInt32 → S → Prop} {px : SX → Prop} {B : S → State → Prop} {BX : String → SX → State → Prop} {AX : Nat → Prop} (hr : vx_Run p l e R s m args below meth c H locs cells slots mc ms (F0 m pc ls st0) rest (va_Qf post B A1 a) (vx_X px BX AX) free) (hS : va_S A0 H0 H locs) (hA : ∀ q, q < H.size → A1 q → A0 q) (hf : ∀ q, free q → A0 q) (hAX : ∀ q, q < H.size → AX q → A0 q)
    (kx : ∀ (E : String) (ce : Cell) (q9 : Addr) (u : SX) (t : State) (H1 : Heap) (locs1 : List Loc), t.heap = H1 → s.vm.Alike t.vm → px u → BX E u t → H.size ≤ H1.size → (∀ q : Nat, q < H.size → ¬ AX q → H1[q]? = H[q]?) → va_S A0 H0 H1 locs1 → H1[q9]? = some ce → ce.vm = .none → s.vm.findClass E = some ce.cls → vx_W p l e R s m args below meth c H1 locs1 (cells + mc) (slots + ms) Q (F0 m pc ls rest) q9)
    (kk : ∀ (r : UInt32) (u : S) (t : State) (H1 : Heap) (locs1 : List Loc), t.heap = H1 → s.vm.Alike t.vm → post r u → B u t → H.size ≤ H1.size → (∀ q : Nat, q < H.size → ¬ A1 q → H1[q]? = H[q]?) → va_S A0 H0 H1 locs1 → W p l e R s m args below meth c H1 locs1 (cells + mc) (slots + ms) Q (F0 m (pc + 3) ls (.float r :: rest))) : W p l e R s m args below meth c H locs cells slots Q (F0 m pc ls st0) := by
  intro T hT X
  rcases hr T hT X with ⟨v, st₀, t, T', L, h0, X', hL, e1, e2, ⟨⟨r, u, hv, hp, hb⟩, hF⟩, st⟩ | ⟨q, st₀, t, T', L, E, ce, h0, X', hL, e1, e2, ⟨u, hp, hb, hF⟩, hce, hcv, hcl, st⟩
  · cases hv
    obtain ⟨k1, k2, k3⟩ := vx_keep h0 e1 hS hA hf hL hF
    obtain ⟨t2, a1, b1⟩ := kk r u t T'.heap (locs ++ L) e1.symm (by rw [← e2]; exact X'.warmed.alike) hp hb k1 k2 k3 T' rfl X'
    exact ⟨t2, st t2 a1, b1⟩
  · obtain ⟨k1, k2, k3⟩ := vx_keep h0 e1 hS hAX hf hL hF
    obtain ⟨t2, a1, b1⟩ := kx E ce q u t T'.heap (locs ++ L) e1.symm (by rw [← e2]; exact X'.warmed.alike) hp hb k1 k2 k3 (by rw [e1]; exact hce) hcv hcl T' rfl X'
    exact ⟨t2, st.trans a1, b1⟩
theorem vx_calld {S SX : Type} {post : UInt64 → S → Prop} {px : SX → Prop} {B : S → State → Prop} {BX : String → SX → State → Prop} {AX : Nat → Prop} (hr : vx_Run p l e R s m args below meth c H locs cells slots mc ms (F0 m pc ls st0) rest (va_Qd post B A1 a) (vx_X px BX AX) free) (hS : va_S A0 H0 H locs) (hA : ∀ q, q < H.size → A1 q → A0 q) (hf : ∀ q, free q → A0 q) (hAX : ∀ q, q < H.size → AX q → A0 q)
    (kx : ∀ (E : String) (ce : Cell) (q9 : Addr) (u : SX) (t : State) (H1 : Heap) (locs1 : List Loc), t.heap = H1 → s.vm.Alike t.vm → px u → BX E u t → H.size ≤ H1.size → (∀ q : Nat, q < H.size → ¬ AX q → H1[q]? = H[q]?) → va_S A0 H0 H1 locs1 → H1[q9]? = some ce → ce.vm = .none → s.vm.findClass E = some ce.cls → vx_W p l e R s m args below meth c H1 locs1 (cells + mc) (slots + ms) Q (F0 m pc ls rest) q9)
    (kk : ∀ (r : UInt64) (u : S) (t : State) (H1 : Heap) (locs1 : List Loc), t.heap = H1 → s.vm.Alike t.vm → post r u → B u t → H.size ≤ H1.size → (∀ q : Nat, q < H.size → ¬ A1 q → H1[q]? = H[q]?) → va_S A0 H0 H1 locs1 → W p l e R s m args below meth c H1 locs1 (cells + mc) (slots + ms) Q (F0 m (pc + 3) ls (.double r :: rest))) : W p l e R s m args below meth c H locs cells slots Q (F0 m pc ls st0) := by
  intro T hT X
  rcases hr T hT X with ⟨v, st₀, t, T', L, h0, X', hL, e1, e2, ⟨⟨r, u, hv, hp, hb⟩, hF⟩, st⟩ | ⟨q, st₀, t, T', L, E, ce, h0, X', hL, e1, e2, ⟨u, hp, hb, hF⟩, hce, hcv, hcl, st⟩
  · cases hv
    obtain ⟨k1, k2, k3⟩ := vx_keep h0 e1 hS hA hf hL hF
    obtain ⟨t2, a1, b1⟩ := kk r u t T'.heap (locs ++ L) e1.symm (by rw [← e2]; exact X'.warmed.alike) hp hb k1 k2 k3 T' rfl X'
    exact ⟨t2, st t2 a1, b1⟩
  · obtain ⟨k1, k2, k3⟩ := vx_keep h0 e1 hS hAX hf hL hF
    obtain ⟨t2, a1, b1⟩ := kx E ce q u t T'.heap (locs ++ L) e1.symm (by rw [← e2]; exact X'.warmed.alike) hp hb k1 k2 k3 (by rw [e1]; exact hce) hcv hcl T' rfl X'
    exact ⟨t2, st.trans a1, b1⟩
theorem vx_callv {S SX : Type} {post : S → Prop} {px : SX → Prop} {B : S → State → Prop} {BX : String → SX → State → Prop} {AX : Nat → Prop} (hr : vx_Run p l e R s m args below meth c H locs cells slots mc ms (F0 m pc ls st0) rest (va_Qv post B A1 a) (vx_X px BX AX) free) (hS : va_S A0 H0 H locs) (hA : ∀ q, q < H.size → A1 q → A0 q) (hf : ∀ q, free q → A0 q) (hAX : ∀ q, q < H.size → AX q → A0 q)
    (kx : ∀ (E : String) (ce : Cell) (q9 : Addr) (u : SX) (t : State) (H1 : Heap) (locs1 : List Loc), t.heap = H1 → s.vm.Alike t.vm → px u → BX E u t → H.size ≤ H1.size → (∀ q : Nat, q < H.size → ¬ AX q → H1[q]? = H[q]?) → va_S A0 H0 H1 locs1 → H1[q9]? = some ce → ce.vm = .none → s.vm.findClass E = some ce.cls → vx_W p l e R s m args below meth c H1 locs1 (cells + mc) (slots + ms) Q (F0 m pc ls rest) q9)
    (kk : ∀ (u : S) (t : State) (H1 : Heap) (locs1 : List Loc), t.heap = H1 → s.vm.Alike t.vm → post u → B u t → H.size ≤ H1.size → (∀ q : Nat, q < H.size → ¬ A1 q → H1[q]? = H[q]?) → va_S A0 H0 H1 locs1 → W p l e R s m args below meth c H1 locs1 (cells + mc) (slots + ms) Q (F0 m (pc + 3) ls (rest))) : W p l e R s m args below meth c H locs cells slots Q (F0 m pc ls st0) := by
  intro T hT X
  rcases hr T hT X with ⟨v, st₀, t, T', L, h0, X', hL, e1, e2, ⟨⟨u, hv, hp, hb⟩, hF⟩, st⟩ | ⟨q, st₀, t, T', L, E, ce, h0, X', hL, e1, e2, ⟨u, hp, hb, hF⟩, hce, hcv, hcl, st⟩
  · cases hv
    obtain ⟨k1, k2, k3⟩ := vx_keep h0 e1 hS hA hf hL hF
    obtain ⟨t2, a1, b1⟩ := kk u t T'.heap (locs ++ L) e1.symm (by rw [← e2]; exact X'.warmed.alike) hp hb k1 k2 k3 T' rfl X'
    exact ⟨t2, st t2 a1, b1⟩
  · obtain ⟨k1, k2, k3⟩ := vx_keep h0 e1 hS hAX hf hL hF
    obtain ⟨t2, a1, b1⟩ := kx E ce q u t T'.heap (locs ++ L) e1.symm (by rw [← e2]; exact X'.warmed.alike) hp hb k1 k2 k3 (by rw [e1]; exact hce) hcv hcl T' rfl X'
    exact ⟨t2, st.trans a1, b1⟩
/-- caught by the row x of this method's table; the rows ahead don't take it -/
theorem vx_catch {own name : String} {E : String} {ce : Cell} {q : Addr} (hown : s.vm.findClass own = some m.cls) (pre : List ExceptionTableEntry) (x : ExceptionTableEntry) (suf : List ExceptionTableEntry) (hsplit : c.exceptionTable.toList = pre ++ x :: suf)
    (hpass : ∀ z ∈ pre, covers z pc = false ∨ (z.catchType ≠ 0 ∧ ∃ nm : String, (Cond.classLink own z.catchType nm).before args s = true ∧ va_Nc E nm s)) (hx : covers x pc = true) (h0 : x.catchType ≠ 0)
    (hlink : (Cond.classLink own x.catchType name).before args s = true) (hcast : (Cond.castable E name).before args s = true) (hcell : H[q]? = some ce) (hv : ce.vm = .none) (hcl : s.vm.findClass E = some ce.cls)
    (kk : W p l e R s m args below meth c H locs cells slots Q (F0 m x.handlerPc ls [.ref q])) : vx_W p l e R s m args below meth c H locs cells slots Q (F0 m pc ls rest) q := by
  intro T hT X
  have hpl : e.platform.magicAccessors = ({} : Platform).magicAccessors := by rw [X.admits.platform]
  obtain ⟨c3, c4, hc3, hc4, hasg⟩ := Cond.castable_spec hcast
  cases Option.some.inj (hc3.symm.trans hcl)
  obtain ⟨c5, hc5, hcl5⟩ := Cond.classLink_spec hown hlink e.platform hpl
  cases Option.some.inj (hc4.symm.trans hc5)
  obtain ⟨vm', X', st⟩ := X.thenCaughtThrough q (g := F0 m pc ls rest) rfl (Steps.refl _) (by rw [hT]; exact hcell) (by rw [hv]; rfl) (by obtain ⟨k9, h9, -⟩ := Vm.findClass_spec hcl; exact ⟨k9, h9⟩) pre x suf hsplit
    (fun z hz => by
      rcases hpass z hz with h | ⟨hz0, nm, hl1, hn1⟩
      · exact Or.inl h
      · obtain ⟨c6, hc6, hcl6⟩ := Cond.classLink_spec hown hl1 e.platform hpl
        obtain ⟨a8, b8, h1, h2, h3⟩ := hn1
        cases Option.some.inj (h1.symm.trans hcl)
        cases Option.some.inj (h2.symm.trans hc6)
        exact Or.inr ⟨hz0, _, hcl6, h3⟩) hx (Or.inr ⟨h0, c4, hcl5, hasg⟩)
  obtain ⟨t, a1, b1⟩ := kk (T.setVm vm') hT X'
  exact ⟨t, st.trans a1, b1⟩
end Rows
section Ends
variable {p : Program} {l : Launch} {e : Env} {R : Room} {s : State} {m : MethodId} {args : Array Value} {below : List Frame} {meth : Method} {c : Code} {H : Heap} {locs : List Loc} {cells slots : Nat} {Q : State → Prop}
variable {mc ms : Nat} {free : Addr → Prop} {A0 A1 : Nat → Prop} {H0 : Heap} {a : Array Value} {ls : Array Slot} {st0 rest : List Value}
variable {Qc : Array Value → State → Outcome → State → Prop} {XC : String → State → State → Prop}
/-- what a body that may throw owes at its end -/
def vx_MQ (below : List Frame) (Qc : Array Value → State → Outcome → State → Prop) (XC : String → State → State → Prop) (a : Array Value) (s : State) (mc ms : Nat) (free : Addr → Prop) : State → Prop := fun t =>
  ∃ o, t.status = .running ∧ Ended t below o ∧ vx_Q Qc XC mc ms free a s o t
theorem vx_ret {g : JFrame} {mc ms : Nat} (k : W p l e R s m args below meth c H locs cells slots (MQ below Qc args s mc ms free) g) : W p l e R s m args below meth c H locs cells slots (vx_MQ below Qc XC args s mc ms free) g := by
  intro T hT X
  obtain ⟨t, a1, o, b1, b2, b3, b4⟩ := k T hT X
  exact ⟨t, a1, o, b1, b2, Or.inl ⟨b3, b4⟩⟩
/-- not caught here: it goes on to the caller -/
theorem vx_widen {g : JFrame} {q : Addr} {k n : Nat} (h1 : cells ≤ k) (h2 : slots ≤ n) (kk : vx_W p l e R s m args below meth c H locs k n Q g q) : vx_W p l e R s m args below meth c H locs cells slots Q g q := fun T hT X => kk T hT (stand_widen X h1 h2)
theorem vx_out {pc : Nat} {E : String} {ce : Cell} {q : Addr} {mc ms : Nat} (hout : ∀ x ∈ c.exceptionTable.toList, covers x pc = false) (hlocks : meth.locks = false) (hcell : H[q]? = some ce) (hv : ce.vm = .none) (hcl : s.vm.findClass E = some ce.cls)
    (hx : ∀ t : State, t.heap = H → s.vm.Alike t.vm → XC E s t) (hf : ∀ z ∈ locs, free z.base) (hc : cells ≤ mc) (hs : slots ≤ ms) :
    vx_W p l e R s m args below meth c H locs cells slots (vx_MQ below Qc XC args s mc ms free) (F0 m pc ls rest) q := by
  intro T hT X
  obtain ⟨st1, hrun, hend, hW, hsm⟩ := X.leaveThrown q (g := F0 m pc ls rest) rfl rfl rfl hout hlocks
  have hcell9 : (T.setFrames (.throwing q :: below)).heap[q]? = some ce := by
    show T.heap[q]? = some ce
    rw [hT]; exact hcell
  exact ⟨_, st1, .threw q, hrun, hend, Or.inr ⟨q, rfl, E, ce, locs, hx _ hT hW.alike, hcell9, hv, hcl, hW, hsm.mono hc hs, hf⟩⟩
theorem vx_frame {U : State} {k n : Nat} (h : s.sameButNew ({ U with vm := s.vm } : State) locs k n) : s.heap.size ≤ U.heap.size ∧ ∀ q : Nat, q < s.heap.size → (∀ z ∈ locs, z.base ≠ q) → U.heap[q]? = s.heap[q]? := by
  obtain ⟨-, h2, -, -, -, h6⟩ := h
  refine ⟨h2, fun q hq hz => ?_⟩
  obtain ⟨c9, e1, e2, e3, e4⟩ := h6 q _ (Array.getElem?_eq_getElem hq)
  have hs : c9.slots = (s.heap[q]).slots := Array.ext_getElem? fun i => e4 i fun hm => hz _ hm rfl
  have h9 : c9 = s.heap[q] := by
    rw [hs] at e2
    exact e2
  have e5 : U.heap[q]? = some c9 := e1
  rw [e5, h9, Array.getElem?_eq_getElem hq]
/-- the words of a throw but the four that speak of the heap -/
def vx_no (w : Cond) : Bool := decide (w ≠ .isRef (.static Bundle.tN "UNASSIGNED_STACK" Bundle.steD)) && decide (w ≠ .isRef (.static Bundle.tN "SUPPRESSED_SENTINEL" Bundle.listD)) && decide (w ≠ .laysStatic Bundle.tN "UNASSIGNED_STACK" Bundle.steD) && decide (w ≠ .laysStatic Bundle.tN "SUPPRESSED_SENTINEL" Bundle.listD)
def vx_at0 (own : String) (ic : Nat) (X : String) (names : List String) : List Cond := (Bundle.ownAtoms0 own ic X names).filter vx_no
def vx_atS (own : String) (ic : Nat) (X : String) (names : List String) : List Cond := (Bundle.ownAtoms own ic X names).filter vx_no
/-- a word that the tables alone decide, or a good one -/
def vx_ot (w : Cond) : Bool := w.onTables || goodWord w
theorem vx_ot_at {args a' : Array Value} {s U : State} {w : Cond} (hW : s.WarmedH U.vm) (hvm : s.vm = U.vm) (hg : vx_ot w = true) (h : w.before args s = true) : w.before a' U = true := by
  simp only [vx_ot, Bool.or_eq_true] at hg
  rcases hg with hg | hg
  · exact va_tabs hg hvm h
  · exact word_at hW (good_of_word hg) h
/-- a list's words: the good ones out of the method's own list, the others by premises of their own -/
theorem vx_hat {args : Array Value} {s : State} {L B : List Cond} (h1 : ∀ w ∈ L.filter goodWord, w.before args s = true) (h2 : ∀ w ∈ L.filter (fun w => !goodWord w), w ∈ B) (h3 : ∀ w ∈ B, w.before args s = true) : ∀ w ∈ L, w.before args s = true := by
  intro w hw
  by_cases g : goodWord w = true
  · exact h1 w (List.mem_filter.mpr ⟨hw, g⟩)
  · refine h3 w (h2 w (List.mem_filter.mpr ⟨hw, ?_⟩))
    show (!goodWord w) = true
    cases hgw : goodWord w
    · rfl
    · exact absurd hgw g
theorem vx_c {args : Array Value} {s : State} {w : Cond} {B : List Cond} (h : w.before args s = true) (t : ∀ w ∈ B, w.before args s = true) : ∀ w' ∈ w :: B, w'.before args s = true := fun w' h' => (List.mem_cons.mp h').elim (fun e => by rw [e]; exact h) (t w')
theorem vx_n {args : Array Value} {s : State} : ∀ w ∈ ([] : List Cond), w.before args s = true := fun _ h => nomatch h
theorem vx_own {args : Array Value} {s : State} {L : List Cond} (h1 : ∀ w ∈ L.filter vx_no, w.before args s = true)
    (hU : (Cond.isRef (.static Bundle.tN "UNASSIGNED_STACK" Bundle.steD)).before args s = true) (hN : (Cond.isRef (.static Bundle.tN "SUPPRESSED_SENTINEL" Bundle.listD)).before args s = true)
    (lU : (Cond.laysStatic Bundle.tN "UNASSIGNED_STACK" Bundle.steD).before args s = true) (lN : (Cond.laysStatic Bundle.tN "SUPPRESSED_SENTINEL" Bundle.listD).before args s = true) : ∀ w ∈ L, w.before args s = true := by
  intro w hw
  by_cases e1 : w = .isRef (.static Bundle.tN "UNASSIGNED_STACK" Bundle.steD)
  · rw [e1]; exact hU
  · by_cases e2 : w = .isRef (.static Bundle.tN "SUPPRESSED_SENTINEL" Bundle.listD)
    · rw [e2]; exact hN
    · by_cases e3 : w = .laysStatic Bundle.tN "UNASSIGNED_STACK" Bundle.steD
      · rw [e3]; exact lU
      · by_cases e4 : w = .laysStatic Bundle.tN "SUPPRESSED_SENTINEL" Bundle.listD
        · rw [e4]; exact lN
        · exact h1 w (List.mem_filter.mpr ⟨hw, by unfold vx_no; rw [decide_eq_true e1, decide_eq_true e2, decide_eq_true e3, decide_eq_true e4]; rfl⟩)
/-- where a static field lies, its class's statics cell in H -/
def vx_L (C n d : String) (A : Nat → Prop) (U : State) (H : Heap) : Prop := ∃ (c : ClassId) (k : Class) (i : Nat) (f : Field) (a : Nat) (cell : Cell), U.vm.findClass C = some c ∧ U.fieldFound? C n d = some (c, k, i, f) ∧ f.isStatic = true ∧ k.statics = some a ∧ H[a]? = some cell ∧ cell.vm.isStatics = true ∧ cell.cls = c ∧ f.slot < cell.slots.size ∧ k.staticTypes[f.slot]? = some f.type ∧ ¬ A a
theorem vx_L.moved {C n d : String} {A : Nat → Prop} {u U : State} {H : Heap} (hvm : u.vm.Alike U.vm) (h : vx_L C n d A u H) : vx_L C n d A U H := by
  obtain ⟨c, k, i, f, a, cell, h1, h2, h3, h4, h5, h6, h7, h8, h9, h10⟩ := h
  obtain ⟨k', hi', he⟩ := State.fieldFound?_setVm hvm h2
  exact ⟨c, k', i, f, a, cell, by rw [hvm.findClass]; exact h1, hi', h3, by rw [he]; exact h4, h5, h6, h7, h8, by rw [he]; exact h9, h10⟩
theorem vx_L.kept {C n d : String} {A : Nat → Prop} {U : State} {H H1 : Heap} (h : vx_L C n d A U H) (hq : ∀ a : Nat, a < H.size → ¬ A a → H1[a]? = H[a]?) : vx_L C n d A U H1 := by
  obtain ⟨c, k, i, f, a, cell, h1, h2, h3, h4, h5, h6, h7, h8, h9, h10⟩ := h
  exact ⟨c, k, i, f, a, cell, h1, h2, h3, h4, by rw [hq a (Array.getElem?_eq_some_iff.mp h5).1 h10]; exact h5, h6, h7, h8, h9, h10⟩
theorem vx_L.narrow {C n d : String} {A B : Nat → Prop} {U : State} {H : Heap} (h : vx_L C n d A U H) (hAB : ∀ q, B q → A q) : vx_L C n d B U H := by
  obtain ⟨c, k, i, f, a, cell, h1, h2, h3, h4, h5, h6, h7, h8, h9, h10⟩ := h
  exact ⟨c, k, i, f, a, cell, h1, h2, h3, h4, h5, h6, h7, h8, h9, fun z => h10 (hAB _ z)⟩
theorem vx_L.word {C n d : String} {A : Nat → Prop} {s : State} {args : Array Value} (h : vx_L C n d A s s.heap) : (Cond.laysStatic C n d).before args s = true := by
  obtain ⟨c, k, i, f, a, cell, h1, h2, h3, h4, h5, h6, h7, h8, h9, -⟩ := h
  show (Cond.laysStatic C n d).holds args s none s [] = true
  exact Cond.laysStatic_of h1 h2 h3 h4 h5 h6 h7 h8 h9
/-- .. and what it holds: null or some reference -/
def vx_Zq (C n d : String) (A : Nat → Prop) (U : State) (H : Heap) : Prop := va_Zq C n d A U H ∧ vx_L C n d A U H
theorem vx_Zq.moved {C n d : String} {A : Nat → Prop} {u U : State} {H : Heap} (hvm : u.vm.Alike U.vm) (h : vx_Zq C n d A u H) : vx_Zq C n d A U H := ⟨va_Zq.moved hvm h.1, vx_L.moved hvm h.2⟩
theorem vx_Zq.kept {C n d : String} {A : Nat → Prop} {U : State} {H H1 : Heap} (h : vx_Zq C n d A U H) (hq : ∀ a : Nat, a < H.size → ¬ A a → H1[a]? = H[a]?) : vx_Zq C n d A U H1 := ⟨va_Zq.kept h.1 hq, vx_L.kept h.2 hq⟩
theorem vx_Zq.narrow {C n d : String} {A B : Nat → Prop} {U : State} {H : Heap} (h : vx_Zq C n d A U H) (hAB : ∀ q, B q → A q) : vx_Zq C n d B U H := ⟨va_Zq.narrow h.1 hAB, vx_L.narrow h.2 hAB⟩
theorem vx_Zqof {args : Array Value} {s : State} {C n d : String} {A : Nat → Prop} (hl : (Cond.laysStatic C n d).before args s = true) (hini : (Cond.initialized C).before args s = true) (h : (Cond.isRef (.static C n d)).before args s = true) (hA : ∀ a : Nat, a < s.heap.size → ¬ A a) : vx_Zq C n d A s s.heap := by
  refine ⟨va_Zqof hl hini h hA, ?_⟩
  obtain ⟨c, k, i, f, a, cell, h1, h2, h3, h4, h5, h6, h7, h8, h9⟩ := Cond.laysStatic_spec hl
  exact ⟨c, k, i, f, a, cell, h1, h2, h3, h4, h5, h6, h7, h8, h9, hA a (Array.getElem?_eq_some_iff.mp h5).1⟩
theorem vx_isRef {C n d : String} {v : Value} {A : Nat → Prop} {s : State} {args : Array Value} (h : va_Z C n d v A s s.heap) (hv : v.isRef = true) : (Cond.isRef (.static C n d)).before args s = true := by
  obtain ⟨cf, kf, fi, f, a, cell, h1, h2, h3, h4, h5, h6, h7, -⟩ := h
  have he : (Term.static C n d).eval args s none [] s = some v := by
    simp [Term.eval, State.fieldNamed?, h1, h2, h4, h5, h6, h7]
  simp only [Cond.before, Cond.holds, Cond.value, he]
  cases v <;> simp_all [Value.isRef]
theorem vx_isRefq {C n d : String} {A : Nat → Prop} {s : State} {args : Array Value} (h : va_Zq C n d A s s.heap) : (Cond.isRef (.static C n d)).before args s = true := by
  rcases h with h | ⟨t, h⟩
  · exact vx_isRef h rfl
  · exact vx_isRef h rfl
/-- the same frame, seen from here: as if the method were called anew in this heap -/
theorem vx_rebase {T : State} (X : Stand p l e R s m args below meth c T locs cells slots) {R' : Room} (hf : R'.frames ≤ R.frames) (hl : R'.locals ≤ R.locals) (hc : cells + R'.cells ≤ R.cells) (hs : slots + R'.slots ≤ R.slots) :
    Stand p l e R' ((T.setVm s.vm).setFrames (.invoking m args :: below)) m args below meth c T [] 0 0 := by
  have htop : (T.setVm s.vm).topJava?.isSome := X.here.top
  have hF : ((T.setVm s.vm).setFrames (.invoking m args :: below)).frames = .invoking m args :: below := State.frames_setFrames _ (State.cur_lt_of_top htop)
  obtain ⟨g₀, hg0⟩ := Option.isSome_iff_exists.mp htop
  obtain ⟨r, hr⟩ := State.topJava?_eq_some.mp hg0
  have hl9 : e.platform.stackLimits (T.setVm s.vm).me = e.platform.stackLimits s.me := X.limits
  have hb9 : (T.setVm s.vm).me.stackBytes = s.me.stackBytes := X.bytes
  refine ⟨X.admits, X.cas, X.clock, hF, ?_, X.hears, X.method, X.code, X.here, X.tail, X.warmed, ?_, ?_, ?_⟩
  · have h := X.room
    have hU : ((T.setVm s.vm).setFrames (.invoking m args :: below)).localsInUse = s.localsInUse := by
      rw [State.localsInUse_invoking hF (meth := meth) (c := c) X.method X.code, State.localsInUse_invoking X.frames X.method X.code]
    simp only [State.hasRoom, Bool.and_eq_true, decide_eq_true_eq] at h ⊢
    obtain ⟨⟨⟨⟨h1, h2, h3, h4, h5, h6⟩, h7⟩, h8⟩, h9⟩ := h
    rw [X.frames, List.length_cons] at h2 h3
    have q1 := X.heapSize
    have q2 := X.used
    simp only [hF, hU, List.length_cons, State.stackLimits_setFrames, State.stackBytes_setFrames, hl9, hb9]
    refine ⟨⟨⟨⟨by omega, by omega, by omega, by omega, by omega, h6⟩, ?_⟩, ?_⟩, X.book⟩
    · show T.heap.size + R'.cells ≤ e.platform.maxCells
      omega
    · show T.slotsUsed + R'.slots ≤ e.platform.maxSlots
      omega
  · rw [State.stackLimits_setFrames]; rfl
  · rw [State.stackBytes_setFrames]; rfl
  · refine ⟨?_, Nat.le_refl _, Nat.le_refl _, ?_, ?_, fun a c9 h9 => ⟨c9, h9, rfl, rfl, fun _ _ => rfl⟩⟩
    · obtain ⟨t, ht, -⟩ := State.frames_cons hr
      show T.setVm s.vm = { ((T.setVm s.vm).setFrames (.invoking m args :: below)).setFrames (T.setVm s.vm).frames with heap := T.heap, slotsUsed := T.slotsUsed }
      rw [State.setFrames_setFrames, State.setFrames_self ht]
      rfl
    · show T.slotsUsed = T.slotsUsed + ((T.heap.toList.drop T.heap.size).map (·.slots.size)).sum
      rw [List.drop_eq_nil_of_le (Nat.le_of_eq Array.length_toList)]
      rfl
    · show ((T.heap.toList.drop T.heap.size).map (·.slots.size)).sum ≤ 0
      rw [List.drop_eq_nil_of_le (Nat.le_of_eq Array.length_toList)]
      exact Nat.le_refl _
/-- 'throw new E()': new; dup; invokespecial; athrow -/
theorem vx_throw0 {cc : ByteArray} {pc : Nat} (hexec : p.tables.exec = Jvm.exec) (hb : c.code = cc) (hl : l.stackTraces = false) {own cls : String} {names : List String} {ik ic mc ms : Nat} {A : Nat → Prop}
    (hown : s.vm.findClass own = some m.cls) (hcls : Bundle.fit cls = true) (hnames : ∀ n ∈ names, Bundle.fit n = true)
    (hk : (Cond.classLink own ik cls).before args s = true) (hini : (Cond.initialized cls).before args s = true) (hat : ∀ w ∈ vx_at0 own ic cls names, w.before args s = true)
    (hgood : ∀ w ∈ Cond.classLink own ik cls :: Cond.initialized cls :: vx_at0 own ic cls names, vx_ot w = true)
    (hU : vx_Zq Bundle.tN "UNASSIGNED_STACK" Bundle.steD A s s.heap) (hN : vx_Zq Bundle.tN "SUPPRESSED_SENTINEL" Bundle.listD A s s.heap) (hS : va_S A s.heap H locs) (hsize : ls.size = c.maxLocals)
    (d0 : decode cc pc = .ok (.new ik, 3)) (d3 : decode cc (pc + 3) = .ok (.dup, 1)) (d4 : decode cc (pc + 4) = .ok (.invokespecial ic, 3)) (d7 : decode cc (pc + 7) = .ok (.athrow, 1))
    (hout : ∀ x ∈ c.exceptionTable.toList, covers x (pc + 7) = false)
    (hRframes : names.length + 3 < R.frames) (hRlocals : (rest.map fun v => v.category).sum + (13 * (names.length + 1) + 42) ≤ R.locals) (hRcells : cells + 1 ≤ R.cells) (hRslots : slots + 6 ≤ R.slots) (hlocks : meth.locks = false)
    (hx : ∀ t : State, s.vm.Alike t.vm → H.size ≤ t.heap.size → (∀ q : Nat, q < H.size → t.heap[q]? = H[q]?) → XC cls s t)
    (hf : ∀ z ∈ locs, free z.base) (hc : cells + 1 ≤ mc) (hs : slots + 6 ≤ ms) :
    W p l e R s m args below meth c H locs cells slots (vx_MQ below Qc XC args s mc ms free) (F0 m pc ls rest) := by
  intro T hT X
  have htr : e.platform.stackTraces = false := (show e.platform.stackTraces = l.stackTraces by rw [X.admits.platform]).trans hl
  have Y := vx_rebase X (R' := { frames := R.frames, locals := R.locals, cells := 1, slots := 6 }) (Nat.le_refl _) (Nat.le_refl _) hRcells hRslots
  obtain ⟨s', hA⟩ : ∃ z, z = (T.setVm s.vm).setFrames (.invoking m args :: below) := ⟨_, rfl⟩
  rw [← hA] at Y
  have hvm : s'.vm = s.vm := by rw [hA]; rfl
  have hhp : s'.heap = H := by rw [hA]; exact hT
  have hW0 : s.WarmedH s'.vm := by rw [hvm]; exact State.WarmedH.refl s
  have hat' : ∀ w ∈ vx_at0 own ic cls names, w.before args s' = true := fun w hw => vx_ot_at hW0 hvm.symm (hgood w (List.mem_cons_of_mem _ (List.mem_cons_of_mem _ hw))) (hat w hw)
  have hk' : (Cond.classLink own ik cls).before args s' = true := vx_ot_at hW0 hvm.symm (hgood _ List.mem_cons_self) hk
  have hini' : (Cond.initialized cls).before args s' = true := vx_ot_at hW0 hvm.symm (hgood _ (List.mem_cons_of_mem _ List.mem_cons_self)) hini
  have hU' : vx_Zq Bundle.tN "UNASSIGNED_STACK" Bundle.steD A s' s'.heap := by rw [hhp]; exact vx_Zq.moved hW0.alike (hU.kept hS.2.1)
  have hN' : vx_Zq Bundle.tN "SUPPRESSED_SENTINEL" Bundle.listD A s' s'.heap := by rw [hhp]; exact vx_Zq.moved hW0.alike (hN.kept hS.2.1)
  have h : ∀ w ∈ Bundle.ownAtoms0 own ic cls names, w.before args s' = true := vx_own hat' (vx_isRefq hU'.1) (vx_isRefq hN'.1) hU'.2.word hN'.2.word
  have hown' : s'.vm.findClass own = some m.cls := by rw [hvm]; exact hown
  have hins : (Cond.instantiable cls 6).before args s' = true := h _ (by simp [Bundle.ownAtoms0])
  obtain ⟨vm₁, cX, kX, hfX, hkX, -, -, X₁, st1⟩ := Y.newCold hexec (own := own) (C := cls) (index := ik) (n := 6) hown' hk' hins hini'
    (g := F0 m pc ls rest) rfl (by rw [hb]; exact d0) (Nat.le_refl _) (Nat.le_refl _)
  generalize hT1 : (T.setVm vm₁).pushCell { cls := cX, slots := kX.instanceTypes.map defaultValue, vm := .none } = T1 at X₁ st1
  have hcat : (Value.ref T.heap.size).category = 1 := rfl
  have hcellA : T1.heap[T.heap.size]? = some (freshCell cX kX) := by rw [← hT1]; exact State.heap_pushCell_size _ _
  have d3' : decode c.code (pc + 3) = .ok (.dup, 1) := by rw [hb]; exact d3
  obtain ⟨U, hsteps, hrun, hend, hW, hsame, ce, hce, hO⟩ := X₁.ctorThrow0 hexec htr (own := own) (cls := cls) (names := names) (ic := ic) hown' hcls hnames h (fun x hx => nomatch hx) hfX hkX hcellA (by rw [hhp, hT]; exact Nat.le_refl _)
    (g := { method := m, pc := pc + 4, locals := ls, stack := .ref T.heap.size :: .ref T.heap.size :: rest, locked := none }) rfl hsize rfl rfl (rest := rest) rfl
    (by rw [hb]; exact d4) (by rw [hb]; exact d7) hout hRframes (by simp only [List.map_cons, List.sum_cons, hcat]; omega) hlocks
  obtain ⟨f1, f2⟩ := vx_frame hsame
  rw [hhp] at f1 f2
  have hWs : s.WarmedH U.vm := State.WarmedH.trans hW0 hW
  have hcl : s.vm.findClass cls = some ce.cls := by
    have h9 := hO.cls
    rw [hvm] at h9
    exact h9
  have hall : s.sameButNew ({ U with vm := s.vm } : State) locs mc ms := by
    subst hA
    obtain ⟨e1, e2⟩ := hsame
    rw [State.setFrames_setFrames] at e1
    have h2 : (T.setVm s.vm).sameButNew ({ U with vm := s.vm } : State) [] (0 + 1) (0 + 6) := ⟨e1, e2⟩
    have h3 := X.same.trans h2
    rw [List.append_nil] at h3
    exact h3.mono hc hs
  refine ⟨U, ?_, .threw T.heap.size, hrun, hend, Or.inr ⟨T.heap.size, rfl, cls, ce, locs, hx U hWs.alike f1 (fun q hq => f2 q hq (fun z hz => nomatch hz)), hce, hO.vm, hcl, hWs, hall, hf⟩⟩
  refine st1 _ ?_
  show Steps p.tables e below (T1.setTop { method := m, pc := pc + 3, locals := ls, stack := .ref T.heap.size :: rest, locked := none }) _
  jvm_step X₁.here [X₁.here.top, hexec, d3', Value.category]
  exact hsteps
/-- 'throw new E("text")': new; dup; ldc; invokespecial; athrow -/
theorem vx_throwS {cc : ByteArray} {pc : Nat} (hexec : p.tables.exec = Jvm.exec) (hb : c.code = cc) (hl : l.stackTraces = false) {own cls text : String} {names : List String} {ik is ic mc ms sa : Nat} {A : Nat → Prop}
    (hown : s.vm.findClass own = some m.cls) (hcls : Bundle.fit cls = true) (hnames : ∀ n ∈ names, Bundle.fit n = true)
    (hk : (Cond.classLink own ik cls).before args s = true) (hini : (Cond.initialized cls).before args s = true) (hstr : vk_R own is text sa s) (hat : ∀ w ∈ vx_atS own ic cls names, w.before args s = true)
    (hgood : ∀ w ∈ Cond.classLink own ik cls :: Cond.initialized cls :: vx_atS own ic cls names, vx_ot w = true)
    (hU : vx_Zq Bundle.tN "UNASSIGNED_STACK" Bundle.steD A s s.heap) (hN : vx_Zq Bundle.tN "SUPPRESSED_SENTINEL" Bundle.listD A s s.heap) (hS : va_S A s.heap H locs) (hsize : ls.size = c.maxLocals)
    (d0 : decode cc pc = .ok (.new ik, 3)) (d3 : decode cc (pc + 3) = .ok (.dup, 1)) (d4 : decode cc (pc + 4) = .ok (.ldc is, 2)) (d6 : decode cc (pc + 6) = .ok (.invokespecial ic, 3)) (d9 : decode cc (pc + 9) = .ok (.athrow, 1))
    (hout : ∀ x ∈ c.exceptionTable.toList, covers x (pc + 9) = false)
    (hRframes : names.length + 3 < R.frames) (hRlocals : (rest.map fun v => v.category).sum + (13 * (names.length + 1) + 43) ≤ R.locals) (hRcells : cells + 1 ≤ R.cells) (hRslots : slots + 6 ≤ R.slots) (hlocks : meth.locks = false)
    (hx : ∀ t : State, s.vm.Alike t.vm → H.size ≤ t.heap.size → (∀ q : Nat, q < H.size → t.heap[q]? = H[q]?) → XC cls s t)
    (hf : ∀ z ∈ locs, free z.base) (hc : cells + 1 ≤ mc) (hs : slots + 6 ≤ ms) :
    W p l e R s m args below meth c H locs cells slots (vx_MQ below Qc XC args s mc ms free) (F0 m pc ls rest) := by
  intro T hT X
  have htr : e.platform.stackTraces = false := (show e.platform.stackTraces = l.stackTraces by rw [X.admits.platform]).trans hl
  have Y := vx_rebase X (R' := { frames := R.frames, locals := R.locals, cells := 1, slots := 6 }) (Nat.le_refl _) (Nat.le_refl _) hRcells hRslots
  obtain ⟨s', hA⟩ : ∃ z, z = (T.setVm s.vm).setFrames (.invoking m args :: below) := ⟨_, rfl⟩
  rw [← hA] at Y
  have hvm : s'.vm = s.vm := by rw [hA]; rfl
  have hhp : s'.heap = H := by rw [hA]; exact hT
  have hW0 : s.WarmedH s'.vm := by rw [hvm]; exact State.WarmedH.refl s
  have hat' : ∀ w ∈ vx_atS own ic cls names, w.before args s' = true := fun w hw => vx_ot_at hW0 hvm.symm (hgood w (List.mem_cons_of_mem _ (List.mem_cons_of_mem _ hw))) (hat w hw)
  have hk' : (Cond.classLink own ik cls).before args s' = true := vx_ot_at hW0 hvm.symm (hgood _ List.mem_cons_self) hk
  have hini' : (Cond.initialized cls).before args s' = true := vx_ot_at hW0 hvm.symm (hgood _ (List.mem_cons_of_mem _ List.mem_cons_self)) hini
  have hU' : vx_Zq Bundle.tN "UNASSIGNED_STACK" Bundle.steD A s' s'.heap := by rw [hhp]; exact vx_Zq.moved hW0.alike (hU.kept hS.2.1)
  have hN' : vx_Zq Bundle.tN "SUPPRESSED_SENTINEL" Bundle.listD A s' s'.heap := by rw [hhp]; exact vx_Zq.moved hW0.alike (hN.kept hS.2.1)
  have h : ∀ w ∈ Bundle.ownAtoms own ic cls names, w.before args s' = true := vx_own hat' (vx_isRefq hU'.1) (vx_isRefq hN'.1) hU'.2.word hN'.2.word
  have hown' : s'.vm.findClass own = some m.cls := by rw [hvm]; exact hown
  have hins : (Cond.instantiable cls 6).before args s' = true := h _ (by simp [Bundle.ownAtoms])
  obtain ⟨vm₁, cX, kX, hfX, hkX, -, -, X₁, st1⟩ := Y.newCold hexec (own := own) (C := cls) (index := ik) (n := 6) hown' hk' hins hini'
    (g := F0 m pc ls rest) rfl (by rw [hb]; exact d0) (Nat.le_refl _) (Nat.le_refl _)
  generalize hT1 : (T.setVm vm₁).pushCell { cls := cX, slots := kX.instanceTypes.map defaultValue, vm := .none } = T1 at X₁ st1
  have hcat : (Value.ref T.heap.size).category = 1 := rfl
  have hcellA : T1.heap[T.heap.size]? = some (freshCell cX kX) := by rw [← hT1]; exact State.heap_pushCell_size _ _
  have d3' : decode c.code (pc + 3) = .ok (.dup, 1) := by rw [hb]; exact d3
  have d4' : decode c.code (pc + 4) = .ok (.ldc is, 2) := by rw [hb]; exact d4
  have hstr' : vk_R own is text sa s' := vk_R.warm hW0 hstr
  obtain ⟨U, hsteps, hrun, hend, hW, hsame, ce, hce, hO⟩ := X₁.ctorThrowS hexec htr (own := own) (cls := cls) (names := names) (ic := ic) hown' hcls hnames h (fun x hx => nomatch hx) hfX hkX hcellA (by rw [hhp, hT]; exact Nat.le_refl _) (msg := .ref sa) rfl
    (g := { method := m, pc := pc + 6, locals := ls, stack := .ref sa :: .ref T.heap.size :: .ref T.heap.size :: rest, locked := none }) rfl hsize rfl rfl (rest := rest) rfl
    (by rw [hb]; exact d6) (by rw [hb]; exact d9) hout hRframes (by simp only [List.map_cons, List.sum_cons, hcat]; omega) hlocks
  obtain ⟨f1, f2⟩ := vx_frame hsame
  rw [hhp] at f1 f2
  have hWs : s.WarmedH U.vm := State.WarmedH.trans hW0 hW
  have hcl : s.vm.findClass cls = some ce.cls := by
    have h9 := hO.cls
    rw [hvm] at h9
    exact h9
  have hall : s.sameButNew ({ U with vm := s.vm } : State) locs mc ms := by
    subst hA
    obtain ⟨e1, e2⟩ := hsame
    rw [State.setFrames_setFrames] at e1
    have h2 : (T.setVm s.vm).sameButNew ({ U with vm := s.vm } : State) [] (0 + 1) (0 + 6) := ⟨e1, e2⟩
    have h3 := X.same.trans h2
    rw [List.append_nil] at h3
    exact h3.mono hc hs
  refine ⟨U, ?_, .threw T.heap.size, hrun, hend, Or.inr ⟨T.heap.size, rfl, cls, ce, locs, hx U hWs.alike f1 (fun q hq => f2 q hq (fun z hz => nomatch hz)), hce, hO.vm, hcl, hWs, hall, hf⟩⟩
  refine st1 _ ?_
  show Steps p.tables e below (T1.setTop { method := m, pc := pc + 3, locals := ls, stack := .ref T.heap.size :: rest, locked := none }) _
  jvm_step X₁.here [X₁.here.top, hexec, d3', Value.category]
  exact X₁.ldcString hexec (own := own) (text := text) (index := is) (a := sa) hown' hstr'.1 hstr'.2
    (g := { method := m, pc := pc + 4, locals := ls, stack := .ref T.heap.size :: .ref T.heap.size :: rest, locked := none }) rfl d4' _ hsteps
/-- 'throw new E("text")', the text by a wide index -/
theorem vx_throwSW {cc : ByteArray} {pc : Nat} (hexec : p.tables.exec = Jvm.exec) (hb : c.code = cc) (hl : l.stackTraces = false) {own cls text : String} {names : List String} {ik is ic mc ms sa : Nat} {A : Nat → Prop}
    (hown : s.vm.findClass own = some m.cls) (hcls : Bundle.fit cls = true) (hnames : ∀ n ∈ names, Bundle.fit n = true)
    (hk : (Cond.classLink own ik cls).before args s = true) (hini : (Cond.initialized cls).before args s = true) (hstr : vk_R own is text sa s) (hat : ∀ w ∈ vx_atS own ic cls names, w.before args s = true)
    (hgood : ∀ w ∈ Cond.classLink own ik cls :: Cond.initialized cls :: vx_atS own ic cls names, vx_ot w = true)
    (hU : vx_Zq Bundle.tN "UNASSIGNED_STACK" Bundle.steD A s s.heap) (hN : vx_Zq Bundle.tN "SUPPRESSED_SENTINEL" Bundle.listD A s s.heap) (hS : va_S A s.heap H locs) (hsize : ls.size = c.maxLocals)
    (d0 : decode cc pc = .ok (.new ik, 3)) (d3 : decode cc (pc + 3) = .ok (.dup, 1)) (d4 : decode cc (pc + 4) = .ok (.ldc_w is, 3)) (d7 : decode cc (pc + 7) = .ok (.invokespecial ic, 3)) (d10 : decode cc (pc + 10) = .ok (.athrow, 1))
    (hout : ∀ x ∈ c.exceptionTable.toList, covers x (pc + 10) = false)
    (hRframes : names.length + 3 < R.frames) (hRlocals : (rest.map fun v => v.category).sum + (13 * (names.length + 1) + 43) ≤ R.locals) (hRcells : cells + 1 ≤ R.cells) (hRslots : slots + 6 ≤ R.slots) (hlocks : meth.locks = false)
    (hx : ∀ t : State, s.vm.Alike t.vm → H.size ≤ t.heap.size → (∀ q : Nat, q < H.size → t.heap[q]? = H[q]?) → XC cls s t)
    (hf : ∀ z ∈ locs, free z.base) (hc : cells + 1 ≤ mc) (hs : slots + 6 ≤ ms) :
    W p l e R s m args below meth c H locs cells slots (vx_MQ below Qc XC args s mc ms free) (F0 m pc ls rest) := by
  intro T hT X
  have htr : e.platform.stackTraces = false := (show e.platform.stackTraces = l.stackTraces by rw [X.admits.platform]).trans hl
  have Y := vx_rebase X (R' := { frames := R.frames, locals := R.locals, cells := 1, slots := 6 }) (Nat.le_refl _) (Nat.le_refl _) hRcells hRslots
  obtain ⟨s', hA⟩ : ∃ z, z = (T.setVm s.vm).setFrames (.invoking m args :: below) := ⟨_, rfl⟩
  rw [← hA] at Y
  have hvm : s'.vm = s.vm := by rw [hA]; rfl
  have hhp : s'.heap = H := by rw [hA]; exact hT
  have hW0 : s.WarmedH s'.vm := by rw [hvm]; exact State.WarmedH.refl s
  have hat' : ∀ w ∈ vx_atS own ic cls names, w.before args s' = true := fun w hw => vx_ot_at hW0 hvm.symm (hgood w (List.mem_cons_of_mem _ (List.mem_cons_of_mem _ hw))) (hat w hw)
  have hk' : (Cond.classLink own ik cls).before args s' = true := vx_ot_at hW0 hvm.symm (hgood _ List.mem_cons_self) hk
  have hini' : (Cond.initialized cls).before args s' = true := vx_ot_at hW0 hvm.symm (hgood _ (List.mem_cons_of_mem _ List.mem_cons_self)) hini
  have hU' : vx_Zq Bundle.tN "UNASSIGNED_STACK" Bundle.steD A s' s'.heap := by rw [hhp]; exact vx_Zq.moved hW0.alike (hU.kept hS.2.1)
  have hN' : vx_Zq Bundle.tN "SUPPRESSED_SENTINEL" Bundle.listD A s' s'.heap := by rw [hhp]; exact vx_Zq.moved hW0.alike (hN.kept hS.2.1)
  have h : ∀ w ∈ Bundle.ownAtoms own ic cls names, w.before args s' = true := vx_own hat' (vx_isRefq hU'.1) (vx_isRefq hN'.1) hU'.2.word hN'.2.word
  have hown' : s'.vm.findClass own = some m.cls := by rw [hvm]; exact hown
  have hins : (Cond.instantiable cls 6).before args s' = true := h _ (by simp [Bundle.ownAtoms])
  obtain ⟨vm₁, cX, kX, hfX, hkX, -, -, X₁, st1⟩ := Y.newCold hexec (own := own) (C := cls) (index := ik) (n := 6) hown' hk' hins hini'
    (g := F0 m pc ls rest) rfl (by rw [hb]; exact d0) (Nat.le_refl _) (Nat.le_refl _)
  generalize hT1 : (T.setVm vm₁).pushCell { cls := cX, slots := kX.instanceTypes.map defaultValue, vm := .none } = T1 at X₁ st1
  have hcat : (Value.ref T.heap.size).category = 1 := rfl
  have hcellA : T1.heap[T.heap.size]? = some (freshCell cX kX) := by rw [← hT1]; exact State.heap_pushCell_size _ _
  have d3' : decode c.code (pc + 3) = .ok (.dup, 1) := by rw [hb]; exact d3
  have d4' : decode c.code (pc + 4) = .ok (.ldc_w is, 3) := by rw [hb]; exact d4
  have hstr' : vk_R own is text sa s' := vk_R.warm hW0 hstr
  obtain ⟨U, hsteps, hrun, hend, hW, hsame, ce, hce, hO⟩ := X₁.ctorThrowS hexec htr (own := own) (cls := cls) (names := names) (ic := ic) hown' hcls hnames h (fun x hx => nomatch hx) hfX hkX hcellA (by rw [hhp, hT]; exact Nat.le_refl _) (msg := .ref sa) rfl
    (g := { method := m, pc := pc + 7, locals := ls, stack := .ref sa :: .ref T.heap.size :: .ref T.heap.size :: rest, locked := none }) rfl hsize rfl rfl (rest := rest) rfl
    (by rw [hb]; exact d7) (by rw [hb]; exact d10) hout hRframes (by simp only [List.map_cons, List.sum_cons, hcat]; omega) hlocks
  obtain ⟨f1, f2⟩ := vx_frame hsame
  rw [hhp] at f1 f2
  have hWs : s.WarmedH U.vm := State.WarmedH.trans hW0 hW
  have hcl : s.vm.findClass cls = some ce.cls := by
    have h9 := hO.cls
    rw [hvm] at h9
    exact h9
  have hall : s.sameButNew ({ U with vm := s.vm } : State) locs mc ms := by
    subst hA
    obtain ⟨e1, e2⟩ := hsame
    rw [State.setFrames_setFrames] at e1
    have h2 : (T.setVm s.vm).sameButNew ({ U with vm := s.vm } : State) [] (0 + 1) (0 + 6) := ⟨e1, e2⟩
    have h3 := X.same.trans h2
    rw [List.append_nil] at h3
    exact h3.mono hc hs
  refine ⟨U, ?_, .threw T.heap.size, hrun, hend, Or.inr ⟨T.heap.size, rfl, cls, ce, locs, hx U hWs.alike f1 (fun q hq => f2 q hq (fun z hz => nomatch hz)), hce, hO.vm, hcl, hWs, hall, hf⟩⟩
  refine st1 _ ?_
  show Steps p.tables e below (T1.setTop { method := m, pc := pc + 3, locals := ls, stack := .ref T.heap.size :: rest, locked := none }) _
  jvm_step X₁.here [X₁.here.top, hexec, d3', Value.category]
  exact X₁.ldcStringW hexec (own := own) (text := text) (index := is) (a := sa) hown' hstr'.1 hstr'.2
    (g := { method := m, pc := pc + 4, locals := ls, stack := .ref T.heap.size :: .ref T.heap.size :: rest, locked := none }) rfl d4' _ hsteps
end Ends
section Bodies
variable {l : Launch}
theorem vx_ofW {y : MethodName} {ws ws' : List Cond} {rm : Room} {Pc : Array Value → State → Prop} {Qc : Array Value → State → Outcome → State → Prop} {XC : String → State → State → Prop} {mc ms : Nat} {free : Addr → Prop} {cc : ByteArray} {maxL : Nat} {ret : Option FieldType}
    (hy : plainName y.cls = true) (hw : ws = Cond.code y cc maxL ret :: ws')
    (body : ∀ p e s m args below meth c s₁, BodyLoose p l y (headSpec ws rm) cc maxL ret e s m args below meth c s₁ → c.maxLocals = maxL → (∀ x ∈ c.exceptionTable.toList, False) → Pc args s →
      W p l e (headSpec ws rm).room s m args below meth c s.heap [] 0 0 (vx_MQ below Qc XC args s mc ms free) (entryFrame m args maxL)) : vx_Met l y ws rm Pc Qc XC mc ms free := by
  refine MetFree.of_bodyS (code := cc) (maxLocals := maxL) (ret := ret) hy ?_ ?_
  · intro args s m h hn
    obtain ⟨meth, c, h1, h2, h3, h4, h5, h6, -, -⟩ := Cond.code_spec hn (atoms_spec (ws := ws) h _ (by rw [hw]; exact List.mem_cons_self))
    exact ⟨meth, c, h1, h2, h3, h4, h5, h6⟩
  · intro p e s m args below meth c s₁ B hml hP _
    have hh0 : s₁.heap = s.heap := by rw [B.state]; rfl
    have ht : ∀ x ∈ c.exceptionTable.toList, False := by
      obtain ⟨meth9, c9, h1, h2, -, -, -, -, h7, -⟩ := Cond.code_spec B.named (atoms_spec (ws := ws) B.pre _ (by rw [hw]; exact List.mem_cons_self))
      cases Option.some.inj (h1.symm.trans B.method)
      cases Option.some.inj (h2.symm.trans (Stand.of_body B).code)
      intro x hx
      rw [Array.isEmpty_iff.mp h7] at hx
      cases hx
    obtain ⟨t, a1, o, b1, b2, b3⟩ := body p e s m args below meth c s₁ B hml ht hP s₁ hh0 (Stand.of_body B)
    exact ⟨t, o, a1, b1, b2, b3⟩
/-- the table of a body with handlers -/
theorem vx_table {p : Program} {x y : MethodName} {S : Spec} {cc bytes : ByteArray} {maxL maxL' : Nat} {ret ret' : Option FieldType} {e : Env} {s s₁ : State} {m : MethodId} {args : Array Value} {below : List Frame} {meth : Method} {c : Code} {hh : List (Nat × Nat × Nat × Nat)}
    (B : BodyLoose p l y S cc maxL ret e s m args below meth c s₁) (h : (Cond.codeWith y bytes maxL' ret' hh).before args s = true) : c.exceptionTable.toList = tableOf hh := by
  obtain ⟨m9, meth9, c9, hn9, h1, h2, -, -, h6, -⟩ := Cond.codeWith_spec h
  cases Option.some.inj (hn9.symm.trans B.named)
  cases Option.some.inj (h1.symm.trans B.method)
  cases Option.some.inj (h2.symm.trans (Stand.of_body B).code)
  rw [← h6, table_eq]
end Bodies
end VXA
/-! ===== END ===== -/
/-! ===== BEGIN a static call of a method with an exception table ===== -/
section VXS
variable {p : Program} {l : Launch} {e : Env} {R : Room} {s : State} {m : MethodId} {args : Array Value} {below : List Frame} {meth : Method} {c : Code} {T : State} {H : Heap} {locs : List Loc} {cells slots : Nat}
abbrev vx_CSW (R : Room) (s : State) (args : Array Value) (own : String) (index : Nat) (y : MethodName) (bytes : ByteArray) (maxL : Nat) (ret : Option FieldType) (hh : List (Nat × Nat × Nat × Nat)) (ws : List Cond) (rm : Room) (mc ms n : Nat) : Prop :=
  (rm.cells = mc ∧ rm.slots = ms ∧ rm.frames + 1 ≤ R.frames ∧ 8 + (maxL + 11) + rm.locals ≤ R.locals ∧ (∀ w ∈ ws, ∀ (a' : Array Value) (U : State), s.WarmedH U.vm → w.before a' U = true) ∧ Cond.codeWith y bytes maxL ret hh ∈ ws) ∧
  (Cond.codeWith y bytes maxL ret hh).before args s = true ∧ (Cond.initialized y.cls).before args s = true ∧ (y.cls ≠ "java/lang/invoke/MethodHandle" ∧ y.cls ≠ "java/lang/invoke/VarHandle") ∧
  (∀ sig, parseMethodDescriptor y.desc = some sig → n = sig.parameters.length) ∧ (Cond.methodLink own index y).before args s = true ∧ (Cond.static y).before args s = true
theorem vx_cwSW {own : String} {index maxL mc ms : Nat} {y : MethodName} {bytes : ByteArray} {ret : Option FieldType} {hh : List (Nat × Nat × Nat × Nat)} {Ts ws ws' : List Cond} {rm : Room} (n : Nat) (ht : ∀ w ∈ Ts, w.before args s = true) (hT : GoodIn Ts (va_wsS own index y ws)) (hw : ws = Cond.codeWith y bytes maxL ret hh :: ws') (hrc : rm.cells = mc) (hrs : rm.slots = ms)
    (hd : y.cls ≠ "java/lang/invoke/MethodHandle" ∧ y.cls ≠ "java/lang/invoke/VarHandle" ∧ (parseMethodDescriptor y.desc).map (fun d => d.parameters.length) = some n) (hR : rm.frames + 1 ≤ R.frames ∧ 8 + (maxL + 11) + rm.locals ≤ R.locals) :
    vx_CSW R s args own index y bytes maxL ret hh ws rm mc ms n := by
  have ok : ∀ w ∈ va_wsS own index y ws, w.before args s = true := fun w h => ht w (hT w h).1
  have hG : GoodIn Ts ws := fun w h => hT w (by unfold va_wsS; exact List.mem_append_right _ h)
  have hc : Cond.codeWith y bytes maxL ret hh ∈ ws := by rw [hw]; exact List.mem_cons_self
  refine ⟨⟨hrc, hrs, hR.1, hR.2, pay_in ht hG, hc⟩, ht _ (hG _ hc).1, ok _ (by simp [va_wsS]), ⟨hd.1, hd.2.1⟩, fun sig h => ?_, ok _ (by simp [va_wsS]), ok _ (by simp [va_wsS])⟩
  have h2 := hd.2.2
  rw [h] at h2
  exact (Option.some.inj h2).symm
theorem vx_callSW (X : Stand p l e R s m args below meth c T locs cells slots) (hexec : p.tables.exec = Jvm.exec) {own : String} {index : Nat} {y : MethodName} {bytes : ByteArray} {maxL : Nat} {ret : Option FieldType} {hh : List (Nat × Nat × Nat × Nat)}
    (hown : s.vm.findClass own = some m.cls) (hlink : (Cond.methodLink own index y).before args s = true) (hstat : (Cond.static y).before args s = true) (hinit : (Cond.initialized y.cls).before args s = true)
    (hcode : (Cond.codeWith y bytes maxL ret hh).before args s = true) (hy : y.cls ≠ "java/lang/invoke/MethodHandle" ∧ y.cls ≠ "java/lang/invoke/VarHandle")
    {W9 : Nat} {Pre : Pt → Array Value → Prop} {Post : Pt → Array Value → Option Value → Pt → Prop} (hK : Back l R p e below s args y 3 W9 Pre Post)
    {g : JFrame} (hg : g.method = m) (hsize : g.locals.size = c.maxLocals) {argsL rest : List Value} (hlen : ∀ sig, parseMethodDescriptor y.desc = some sig → argsL.length = sig.parameters.length)
    (hstack : g.stack = argsL.reverse ++ rest) (hW : 2 * g.monitorRoom + (rest.map fun v => v.category).sum ≤ W9) (hdg : decode c.code g.pc = .ok (.invokestatic index, 3))
    (hpre : ∀ vm₁, s.WarmedH vm₁ → Pre ⟨T.setVm vm₁, locs, cells, slots⟩ argsL.toArray) :
    ∃ (v : Option Value) (vm₁ : Vm) (B : Pt), s.WarmedH vm₁ ∧ Stand p l e R s m args below meth c B.U B.locs B.cells B.slots ∧ Post ⟨T.setVm vm₁, locs, cells, slots⟩ argsL.toArray v B ∧
      ∀ target, Steps p.tables e below (B.U.setTop { g with pc := g.pc + 3, stack := v.toList ++ rest }) target → Steps p.tables e below (T.setTop g) target := by
  obtain ⟨mk, methM, cM, hnamed, hmethM, -, -, -, -, -, -, hsigM⟩ := Cond.codeWith_spec hcode
  have hstatic : methM.isStatic = true := Cond.static_spec hnamed hmethM hstat
  obtain ⟨kP, hkP, -⟩ := className_of_methodNamed hnamed
  have hinitP : kP.init = .initialized := Cond.initialized_spec (findClass_of_methodNamed hnamed) hkP hinit
  obtain ⟨vm₁, X₁, hstep₁⟩ := X.invokestatic hexec hown hlink hnamed hmethM hstatic hkP hinitP hy (g := g) hg (argsL := argsL) (rest := rest) (hlen _ hsigM) hstack hdg
  obtain ⟨v, B, X', hpost, hsteps⟩ := hK m meth c ⟨T.setVm vm₁, locs, cells, slots⟩ { g with stack := rest } (.invokestatic index) mk argsL.toArray X₁ hg hsize hdg hW (X₁.named hnamed) (hpre vm₁ X₁.warmed)
  exact ⟨v, vm₁, B, X₁.warmed, X', hpost, fun target h => hstep₁ _ fun acts => by rw [doInvoke_state]; exact hsteps.trans h⟩
theorem vx_runSW {y : MethodName} {bytes cc : ByteArray} {maxL nL mc ms n index : Nat} {ret : Option FieldType} {hh : List (Nat × Nat × Nat × Nat)} {ws : List Cond} {rm : Room} {Pc : Array Value → State → Prop} {Qc : Array Value → State → Outcome → State → Prop} {free : Addr → Prop} {Ts : List Cond} {own : String} {As rest : List Value} {g : JFrame}
    (S : CallFix p m c cc nL s args Ts own) (hM : Met l y ws rm Pc Qc mc ms free) (cw : vx_CSW R s args own index y bytes maxL ret hh ws rm mc ms n) (hp : PreS s H Pc As)
    (hg : g.method = m) (hn : As.length = n) (hsize : g.locals.size = nL) (hstack : g.stack = As.reverse ++ rest) (hW : 2 * g.monitorRoom + (rest.map fun v => v.category).sum ≤ 8) (hdg : decode cc g.pc = .ok (.invokestatic index, 3)) (hf : cells + mc ≤ R.cells ∧ slots + ms ≤ R.slots) :
    va_Run p l e R s m args below meth c H locs cells slots mc ms g rest (Qc As.toArray) (free) := by
  obtain ⟨⟨hrc, hrs, hfr, hlo, hws, hcw⟩, hcode, hini, hy, hlen, hl, hstt⟩ := cw
  have hK : Back l R p e below s args y 3 8 (PreOf R mc ms Pc) (PostOf Qc mc ms free) := va_backW (hh := hh) (bytes := bytes) (maxL := maxL) (ret := ret) hM hp.1 hrc hrs hfr hlo hws hcw (fun a' U hW => word_at hW (Or.inl (by first | rfl | simp [Cond.onTables, Cond.keeps, Cond.steady])) hini)
  obtain ⟨hx, hb, hml, ho, -⟩ := S
  intro T hT X
  obtain ⟨v, vm₁, ⟨U', l2, c2, s2⟩, hW₁, X', ⟨g', mk, t, L, e1, e2, hq, h1, hL, h2, h3⟩, st⟩ := vx_callSW X hx (hh := hh) (bytes := bytes) (maxL := maxL) (ret := ret) ho hl hstt hini hcode hy hK hg (hsize.trans hml.symm) (argsL := As) (rest := rest) (fun sig h => hn.trans (hlen sig h)) hstack hW (by rw [hb]; exact hdg)
    (fun vm₁ hW₁ => ⟨hf.1, hf.2, hp.2 (T.setVm vm₁) hT hW₁⟩)
  dsimp only [Pt.U, Pt.locs, Pt.cells, Pt.slots] at X' e1 e2 h1 h2 h3 st
  subst h1; subst h2; subst h3
  exact ⟨v, (T.setVm vm₁).calling g' mk As.toArray, t, U', L, hT, X', hL, e1, e2, hq, st⟩
/-- not caught here, past rows that name other classes: it goes on to the caller -/
theorem vx_outP {p : Program} {l : Launch} {e : Env} {R : Room} {s : State} {m : MethodId} {args : Array Value} {below : List Frame} {meth : Method} {c : Code} {H : Heap} {locs : List Loc} {cells slots : Nat} {free : Addr → Prop} {ls : Array Slot} {rest : List Value} {Qc : Array Value → State → Outcome → State → Prop} {XC : String → State → State → Prop}
    {pc : Nat} {own E : String} {ce : Cell} {q : Addr} {mc ms : Nat} (hown : s.vm.findClass own = some m.cls) (hlocks : meth.locks = false)
    (hpass : ∀ z ∈ c.exceptionTable.toList, covers z pc = false ∨ (z.catchType ≠ 0 ∧ ∃ nm : String, (Cond.classLink own z.catchType nm).before args s = true ∧ va_Nc E nm s)) (hcell : H[q]? = some ce) (hv : ce.vm = .none) (hcl : s.vm.findClass E = some ce.cls)
    (hx : ∀ t : State, t.heap = H → s.vm.Alike t.vm → XC E s t) (hf : ∀ z ∈ locs, free z.base) (hc : cells ≤ mc) (hs : slots ≤ ms) :
    vx_W p l e R s m args below meth c H locs cells slots (vx_MQ below Qc XC args s mc ms free) (F0 m pc ls rest) q := by
  intro T hT X
  have hpl : e.platform.magicAccessors = ({} : Platform).magicAccessors := by rw [X.admits.platform]
  obtain ⟨vm', hW', X', st⟩ := X.outThrough hlocks q (g := F0 m pc ls rest) rfl rfl rfl (cell := ce) (by rw [hT]; exact hcell) (by rw [hv]; rfl)
    (by obtain ⟨k9, h9, -⟩ := Vm.findClass_spec hcl; exact ⟨k9, h9⟩) (fun z hz => by
      rcases hpass z hz with h | ⟨hz0, nm, hl1, hn1⟩
      · exact Or.inl h
      · obtain ⟨c6, hc6, hcl6⟩ := Cond.classLink_spec hown hl1 e.platform hpl
        obtain ⟨a8, b8, h1, h2, h3⟩ := hn1
        cases Option.some.inj (h1.symm.trans hcl)
        cases Option.some.inj (h2.symm.trans hc6)
        exact Or.inr ⟨hz0, _, hcl6, h3⟩)
  obtain ⟨g₀, hfr⟩ := X'.frames_eq
  have hcell9 : ((T.setVm vm').setFrames (.throwing q :: below)).heap[q]? = some ce := by
    show T.heap[q]? = some ce
    rw [hT]; exact hcell
  have hend : Ended ((T.setVm vm').setFrames (.throwing q :: below)) below (.threw q) := State.frames_setFrames _ (State.cur_lt_of_frames hfr)
  refine ⟨(T.setVm vm').setFrames (.throwing q :: below), ?_, .threw q, X'.here.running, hend, Or.inr ⟨q, rfl, E, ce, locs, hx _ hT (X'.ends _).1.alike, hcell9, hv, hcl, (X'.ends _).1, (X'.ends _).2.mono hc hs, hf⟩⟩
  rw [X.pushThrowing_eq]
  exact st
/-- a thing of a world lies in the heap -/
theorem vx_lt {D : va_G} {cl : List vw_C} {ws : va_W} {H1 : Heap} (h : va_P D cl ws H1) {k : Nat} {q : Nat × va_E} (hk : ws[k]? = some q) : q.1 < H1.size := (h k q hk).lt
end VXS
/-! ===== END ===== -/
/-! ===== BEGIN methods with a table of their own: called by a name, returning or throwing ===== -/
section VXH
/-! vx_backW, vx_callVX, vx_callSX, vx_callVW, vx_runVW, vx_runVX, vx_runSX, vx_ofWH follow the same proofs as their sisters above (Free/Laws.lean, Shelf42/LK1.lean); vx_outP calls Shelf42/NT130.lean (outThrough). -/
section
variable {l : Launch} {R : Room} {p : Program} {e : Env} {below : List Frame} {s : State} {sargs : Array Value} {y : MethodName} {len W9 : Nat}
theorem vx_backW {ws : List Cond} {rm : Room} {Pc : Array Value → State → Prop} {Qc : Array Value → State → Outcome → State → Prop} {XC : String → State → State → Prop} {mc ms : Nat} {free : Addr → Prop} {bytes : ByteArray} {maxL : Nat} {ret : Option FieldType} {hh : List (Nat × Nat × Nat × Nat)}
    (hM : vx_Met l y ws rm Pc Qc XC mc ms free) (hblind : FrameBlind Pc) (hrc : rm.cells = mc) (hrs : rm.slots = ms)
    (hframes : rm.frames + 1 ≤ R.frames) (hlocals : W9 + (maxL + 11) + rm.locals ≤ R.locals)
    (hws : ∀ w ∈ ws, ∀ a' U, s.WarmedH U.vm → w.before a' U = true) (hcode : Cond.codeWith y bytes maxL ret hh ∈ ws) (hinit : ∀ a' U, s.WarmedH U.vm → (Cond.initialized y.cls).before a' U = true) :
    vx_Back l R p e below s sargs y len W9 (PreOf R mc ms Pc) (PostOf Qc mc ms free) (vx_Post XC mc ms free) := by
  intro m meth c A g ig mk a X hg hsize hdg hW hn hp
  have h1 : (headSpec ws rm).pre.before a A.U = true := atoms_intro fun w hw => hws w hw _ _ X.warmed
  have h2 : (Cond.codeWith y bytes maxL ret hh).before a A.U = true := hws _ hcode _ _ X.warmed
  have h3 : (Cond.initialized y.cls).before a A.U = true := hinit _ _ X.warmed
  have h4 : A.cells + (headSpec ws rm).room.cells ≤ R.cells := by rw [show (headSpec ws rm).room.cells = mc from hrc]; exact hp.1
  have h5 : A.slots + (headSpec ws rm).room.slots ≤ R.slots := by rw [show (headSpec ws rm).room.slots = ms from hrs]; exact hp.2.1
  have hPc : Pc a (A.U.calling g mk a) := hblind _ _ _ _ hp.2.2
  obtain ⟨U, Ls, c0, s0⟩ := A
  dsimp only [Pt.U, Pt.locs, Pt.cells, Pt.slots] at h1 h2 h3 h4 h5 X hn hPc ⊢
  obtain ⟨m9, methY, cY, hn9, hmY, hcY, -, hlY, -⟩ := Cond.codeWith_spec h2
  cases Option.some.inj (hn9.symm.trans hn)
  obtain ⟨kY, hkY, -⟩ := className_of_methodNamed hn
  have hinitY : kY.init = .initialized := Cond.initialized_spec (findClass_of_methodNamed hn) hkY h3
  have h : At U g.method c below := by rw [hg]; exact X.here
  have hlocals9 : W9 + (maxL + 11) + (headSpec ws rm).room.locals ≤ R.locals := hlocals
  have happ : (headSpec ws rm).appliesLoose y e.platform (U.calling g mk a) = true :=
    Spec.appliesLoose_calling (g := g) h hdg hn hkY hinitY
      (X.room_calling (g := g) (R' := (headSpec ws rm).room) hsize hmY hcY hframes (by rw [hlY]; omega) h4 h5) h1
  obtain ⟨mid, hmid⟩ := h.above
  have hfr : (U.setTop g).frames = (.java g :: mid) ++ below := by rw [State.frames_setTop' g h.top, hmid]; rfl
  obtain ⟨o, s₂, hsteps, -, hend, hq⟩ := Steps.callFree hM p X.admits X.cas X.clock (acts := []) hfr happ hPc trivial
  have hq' : vx_Q Qc XC mc ms free a (U.calling g mk a) o s₂ := hq
  rw [State.frames_setTop' g h.top] at hend
  obtain ⟨g₀, hg0⟩ := Option.isSome_iff_exists.mp h.top
  obtain ⟨r, hr⟩ := State.topJava?_eq_some.mp hg0
  have hr' : (({ U with heap := s₂.heap, slotsUsed := s₂.slotsUsed } : State).setVm s₂.vm).frames = .java g₀ :: r := hr
  rcases hq' with ⟨hqc, L, hfe, hL⟩ | ⟨q, rfl, E, ce, L, hx, hce, hcv, hcl, hW₂, hsm, hL⟩
  · obtain ⟨⟨v, rfl⟩, hW₂, e2, q2, q3, q4, q5, q6⟩ := id hfe
    have e3 : s₂ = ({ (U.calling g mk a).setFrames s₂.frames with heap := s₂.heap, slotsUsed := s₂.slotsUsed } : State).setVm s₂.vm := by
      have : s₂ = ({ s₂ with vm := (U.calling g mk a).vm } : State).setVm s₂.vm := rfl
      rw [e2] at this
      exact this
    obtain ⟨c₂, i₂, len₂, hc₂, hd₂, hf₂⟩ := hend
    have hW' : U.WarmedH s₂.vm := hW₂
    have hcc : c₂ = c := by
      have h1 : s₂.code? g.method = U.code? g.method := by
        rw [State.code?_eq, State.code?_eq, hW'.alike.method?]
      exact Option.some.inj (hc₂.symm.trans (h1.trans h.code))
    subst hcc
    have hlen : len₂ = len := by rw [hdg] at hd₂; cases hd₂; rfl
    subst hlen
    have hs₂ : s₂ = (({ U with heap := s₂.heap, slotsUsed := s₂.slotsUsed } : State).setVm s₂.vm).setTop { g with pc := g.pc + len₂, stack := v.toList ++ g.stack } := by
      refine e3.trans ?_
      rw [hf₂, State.calling_eq h.top, State.setFrames_setFrames, State.setTop_of_frames _ hr', hr]
      rfl
    have hsame : U.sameButNew ({ U with heap := s₂.heap, slotsUsed := s₂.slotsUsed } : State) L mc ms := by
      refine ⟨?_, q2, q3, q4, q5, q6⟩
      obtain ⟨t, ht, -⟩ := State.frames_cons hr
      show ({ U with heap := s₂.heap, slotsUsed := s₂.slotsUsed } : State) = { U.setFrames U.frames with heap := s₂.heap, slotsUsed := s₂.slotsUsed }
      rw [State.setFrames_self ht]
    subst hg
    refine Or.inl ⟨v, ⟨(({ U with heap := s₂.heap, slotsUsed := s₂.slotsUsed } : State).setVm s₂.vm), Ls ++ L, c0 + mc, s0 + ms⟩,
      ⟨X.admits, X.cas, X.clock, X.frames, X.room, X.hears, X.method, X.code, (X.here.setHeapUsed s₂.heap s₂.slotsUsed).setVm hW'.alike, X.tail, State.WarmedH.trans X.warmed hW', X.limits, X.bytes, X.same.trans (hsame.setVm s.vm)⟩,
      ⟨g, mk, s₂, L, rfl, rfl, hqc, rfl, hL, rfl, rfl⟩, ?_⟩
    show Steps p.tables e below _ ((({ U with heap := s₂.heap, slotsUsed := s₂.slotsUsed } : State).setVm s₂.vm).setTop { g with pc := g.pc + len₂, stack := v.toList ++ g.stack })
    rw [← hs₂]
    exact hsteps
  · obtain ⟨e2, q2, q3, q4, q5, q6⟩ := id hsm
    have e3 : s₂ = ({ (U.calling g mk a).setFrames s₂.frames with heap := s₂.heap, slotsUsed := s₂.slotsUsed } : State).setVm s₂.vm := by
      have : s₂ = ({ s₂ with vm := (U.calling g mk a).vm } : State).setVm s₂.vm := rfl
      rw [e2] at this
      exact this
    have hf₂ : s₂.frames = .throwing q :: .java g :: U.frames.tail := hend
    have hW' : U.WarmedH s₂.vm := hW₂
    have hs₂ : s₂ = ((({ U with heap := s₂.heap, slotsUsed := s₂.slotsUsed } : State).setVm s₂.vm).setTop g).pushFrame (.throwing q) := by
      refine e3.trans ?_
      rw [hf₂, State.calling_eq h.top, State.setFrames_setFrames, State.pushFrame, State.frames_setTop _ hr', State.setTop_of_frames _ hr', State.setFrames_setFrames, hr]
      rfl
    have hsame : U.sameButNew ({ U with heap := s₂.heap, slotsUsed := s₂.slotsUsed } : State) L mc ms := by
      refine ⟨?_, q2, q3, q4, q5, q6⟩
      obtain ⟨t, ht, -⟩ := State.frames_cons hr
      show ({ U with heap := s₂.heap, slotsUsed := s₂.slotsUsed } : State) = { U.setFrames U.frames with heap := s₂.heap, slotsUsed := s₂.slotsUsed }
      rw [State.setFrames_self ht]
    subst hg
    refine Or.inr ⟨q, ⟨(({ U with heap := s₂.heap, slotsUsed := s₂.slotsUsed } : State).setVm s₂.vm), Ls ++ L, c0 + mc, s0 + ms⟩,
      ⟨X.admits, X.cas, X.clock, X.frames, X.room, X.hears, X.method, X.code, (X.here.setHeapUsed s₂.heap s₂.slotsUsed).setVm hW'.alike, X.tail, State.WarmedH.trans X.warmed hW', X.limits, X.bytes, X.same.trans (hsame.setVm s.vm)⟩,
      ⟨g, mk, s₂, L, E, ce, rfl, rfl, hx, hce, hcv, hcl, rfl, hL, rfl, rfl⟩, ?_⟩
    show Steps p.tables e below _ (((({ U with heap := s₂.heap, slotsUsed := s₂.slotsUsed } : State).setVm s₂.vm).setTop g).pushFrame (.throwing q))
    rw [← hs₂]
    exact hsteps
end
variable {p : Program} {l : Launch} {e : Env} {R : Room} {s : State} {m : MethodId} {args : Array Value} {below : List Frame} {meth : Method} {c : Code} {T : State} {H : Heap} {locs : List Loc} {cells slots : Nat}
theorem vx_callVX (X : Stand p l e R s m args below meth c T locs cells slots) (hexec : p.tables.exec = Jvm.exec) {own C : String} {index : Nat} {y : MethodName} {bytes : ByteArray} {maxL : Nat} {ret : Option FieldType} {hh : List (Nat × Nat × Nat × Nat)}
    (hown : s.vm.findClass own = some m.cls) (hlink : (Cond.methodLink own index y).before args s = true) (hinst : (Cond.instanceMethod y).before args s = true) (hsel : (Cond.selects C y y).before args s = true)
    (hcode : (Cond.codeWith y bytes maxL ret hh).before args s = true) (hy : y.cls ≠ "java/lang/invoke/MethodHandle" ∧ y.cls ≠ "java/lang/invoke/VarHandle")
    {W9 : Nat} {Pre : Pt → Array Value → Prop} {Post : Pt → Array Value → Option Value → Pt → Prop} {PostX : Pt → Array Value → Addr → Pt → Prop} (hK : vx_Back l R p e below s args y 3 W9 Pre Post PostX)
    {b : Addr} {cellB : Cell} (hcell : T.heap[b]? = some cellB) (hobj : cellB.vm.isStatics = false) (hcls : s.vm.findClass C = some cellB.cls)
    {g : JFrame} (hg : g.method = m) (hsize : g.locals.size = c.maxLocals) {argsL rest : List Value} (hlen : ∀ sig, parseMethodDescriptor y.desc = some sig → argsL.length = sig.parameters.length)
    (hstack : g.stack = argsL.reverse ++ .ref b :: rest) (hW : 2 * g.monitorRoom + (rest.map fun v => v.category).sum ≤ W9) (hdg : decode c.code g.pc = .ok (.invokevirtual index, 3))
    (hpre : ∀ vm₁, s.WarmedH vm₁ → Pre ⟨T.setVm vm₁, locs, cells, slots⟩ (Value.ref b :: argsL).toArray) :
    (∃ (v : Option Value) (vm₁ : Vm) (B : Pt), s.WarmedH vm₁ ∧ Stand p l e R s m args below meth c B.U B.locs B.cells B.slots ∧ Post ⟨T.setVm vm₁, locs, cells, slots⟩ (Value.ref b :: argsL).toArray v B ∧
      ∀ target, Steps p.tables e below (B.U.setTop { g with pc := g.pc + 3, stack := v.toList ++ rest }) target → Steps p.tables e below (T.setTop g) target) ∨
    (∃ (q : Addr) (vm₁ : Vm) (B : Pt), s.WarmedH vm₁ ∧ Stand p l e R s m args below meth c B.U B.locs B.cells B.slots ∧ PostX ⟨T.setVm vm₁, locs, cells, slots⟩ (Value.ref b :: argsL).toArray q B ∧
      Steps p.tables e below (T.setTop g) ((B.U.setTop { g with stack := rest }).pushFrame (.throwing q))) := by
  obtain ⟨mk, methM, hnamed, hmethM, hstM, habM⟩ := Cond.instanceMethod_spec hinst
  obtain ⟨m8, methM', cM, hn8, hmethM', -, -, -, -, -, -, hsigM⟩ := Cond.codeWith_spec hcode
  cases Option.some.inj (hn8.symm.trans hnamed)
  cases hmethM.symm.trans hmethM'
  obtain ⟨c2, r2, m2, q1, q2, q3, q4, kP, hkP, hkPi⟩ := Cond.selects_spec hsel
  cases hcls.symm.trans q1
  cases (State.methodFound?_of_named hnamed hy).symm.trans q2
  cases hnamed.symm.trans q3
  have hselP : selectMethod e.platform s.vm cellB.cls mk = .method mk := by rw [Launch.admits_selectMethod X.admits]; exact q4
  obtain ⟨vm₁, X₁, hstep₁⟩ := X.invokevirtual hexec hown hlink hnamed hmethM hstM hkP hkPi hy (a := b) (cell := cellB) hcell
    (fun z h => by rw [h] at hobj; cases hobj) hselP hmethM habM hkP hkPi (g := g) hg (argsL := argsL) (rest := rest) (hlen _ hsigM) hstack hdg
  rcases hK m meth c ⟨T.setVm vm₁, locs, cells, slots⟩ { g with stack := rest } (.invokevirtual index) mk (Value.ref b :: argsL).toArray X₁ hg hsize hdg hW (X₁.named hnamed) (hpre vm₁ X₁.warmed) with ⟨v, B, X', hpost, hsteps⟩ | ⟨q, B, X', hpost, hsteps⟩
  · exact Or.inl ⟨v, vm₁, B, X₁.warmed, X', hpost, fun target h => hstep₁ _ fun acts => by rw [doInvoke_state]; exact hsteps.trans h⟩
  · exact Or.inr ⟨q, vm₁, B, X₁.warmed, X', hpost, hstep₁ _ fun acts => by rw [doInvoke_state]; exact hsteps⟩
theorem vx_callSX (X : Stand p l e R s m args below meth c T locs cells slots) (hexec : p.tables.exec = Jvm.exec) {own : String} {index : Nat} {y : MethodName} {bytes : ByteArray} {maxL : Nat} {ret : Option FieldType} {hh : List (Nat × Nat × Nat × Nat)}
    (hown : s.vm.findClass own = some m.cls) (hlink : (Cond.methodLink own index y).before args s = true) (hstat : (Cond.static y).before args s = true) (hinit : (Cond.initialized y.cls).before args s = true)
    (hcode : (Cond.codeWith y bytes maxL ret hh).before args s = true) (hy : y.cls ≠ "java/lang/invoke/MethodHandle" ∧ y.cls ≠ "java/lang/invoke/VarHandle")
    {W9 : Nat} {Pre : Pt → Array Value → Prop} {Post : Pt → Array Value → Option Value → Pt → Prop} {PostX : Pt → Array Value → Addr → Pt → Prop} (hK : vx_Back l R p e below s args y 3 W9 Pre Post PostX)
    {g : JFrame} (hg : g.method = m) (hsize : g.locals.size = c.maxLocals) {argsL rest : List Value} (hlen : ∀ sig, parseMethodDescriptor y.desc = some sig → argsL.length = sig.parameters.length)
    (hstack : g.stack = argsL.reverse ++ rest) (hW : 2 * g.monitorRoom + (rest.map fun v => v.category).sum ≤ W9) (hdg : decode c.code g.pc = .ok (.invokestatic index, 3))
    (hpre : ∀ vm₁, s.WarmedH vm₁ → Pre ⟨T.setVm vm₁, locs, cells, slots⟩ argsL.toArray) :
    (∃ (v : Option Value) (vm₁ : Vm) (B : Pt), s.WarmedH vm₁ ∧ Stand p l e R s m args below meth c B.U B.locs B.cells B.slots ∧ Post ⟨T.setVm vm₁, locs, cells, slots⟩ argsL.toArray v B ∧
      ∀ target, Steps p.tables e below (B.U.setTop { g with pc := g.pc + 3, stack := v.toList ++ rest }) target → Steps p.tables e below (T.setTop g) target) ∨
    (∃ (q : Addr) (vm₁ : Vm) (B : Pt), s.WarmedH vm₁ ∧ Stand p l e R s m args below meth c B.U B.locs B.cells B.slots ∧ PostX ⟨T.setVm vm₁, locs, cells, slots⟩ argsL.toArray q B ∧
      Steps p.tables e below (T.setTop g) ((B.U.setTop { g with stack := rest }).pushFrame (.throwing q))) := by
  obtain ⟨mk, methM, cM, hnamed, hmethM, -, -, -, -, -, -, hsigM⟩ := Cond.codeWith_spec hcode
  have hstatic : methM.isStatic = true := Cond.static_spec hnamed hmethM hstat
  obtain ⟨kP, hkP, -⟩ := className_of_methodNamed hnamed
  have hinitP : kP.init = .initialized := Cond.initialized_spec (findClass_of_methodNamed hnamed) hkP hinit
  obtain ⟨vm₁, X₁, hstep₁⟩ := X.invokestatic hexec hown hlink hnamed hmethM hstatic hkP hinitP hy (g := g) hg (argsL := argsL) (rest := rest) (hlen _ hsigM) hstack hdg
  rcases hK m meth c ⟨T.setVm vm₁, locs, cells, slots⟩ { g with stack := rest } (.invokestatic index) mk argsL.toArray X₁ hg hsize hdg hW (X₁.named hnamed) (hpre vm₁ X₁.warmed) with ⟨v, B, X', hpost, hsteps⟩ | ⟨q, B, X', hpost, hsteps⟩
  · exact Or.inl ⟨v, vm₁, B, X₁.warmed, X', hpost, fun target h => hstep₁ _ fun acts => by rw [doInvoke_state]; exact hsteps.trans h⟩
  · exact Or.inr ⟨q, vm₁, B, X₁.warmed, X', hpost, hstep₁ _ fun acts => by rw [doInvoke_state]; exact hsteps⟩
theorem vx_callVW (X : Stand p l e R s m args below meth c T locs cells slots) (hexec : p.tables.exec = Jvm.exec) {own C : String} {index : Nat} {y : MethodName} {bytes : ByteArray} {maxL : Nat} {ret : Option FieldType} {hh : List (Nat × Nat × Nat × Nat)}
    (hown : s.vm.findClass own = some m.cls) (hlink : (Cond.methodLink own index y).before args s = true) (hinst : (Cond.instanceMethod y).before args s = true) (hsel : (Cond.selects C y y).before args s = true)
    (hcode : (Cond.codeWith y bytes maxL ret hh).before args s = true) (hy : y.cls ≠ "java/lang/invoke/MethodHandle" ∧ y.cls ≠ "java/lang/invoke/VarHandle")
    {W9 : Nat} {Pre : Pt → Array Value → Prop} {Post : Pt → Array Value → Option Value → Pt → Prop} (hK : Back l R p e below s args y 3 W9 Pre Post)
    {b : Addr} {cellB : Cell} (hcell : T.heap[b]? = some cellB) (hobj : cellB.vm.isStatics = false) (hcls : s.vm.findClass C = some cellB.cls)
    {g : JFrame} (hg : g.method = m) (hsize : g.locals.size = c.maxLocals) {argsL rest : List Value} (hlen : ∀ sig, parseMethodDescriptor y.desc = some sig → argsL.length = sig.parameters.length)
    (hstack : g.stack = argsL.reverse ++ .ref b :: rest) (hW : 2 * g.monitorRoom + (rest.map fun v => v.category).sum ≤ W9) (hdg : decode c.code g.pc = .ok (.invokevirtual index, 3))
    (hpre : ∀ vm₁, s.WarmedH vm₁ → Pre ⟨T.setVm vm₁, locs, cells, slots⟩ (Value.ref b :: argsL).toArray) :
    ∃ (v : Option Value) (vm₁ : Vm) (B : Pt), s.WarmedH vm₁ ∧ Stand p l e R s m args below meth c B.U B.locs B.cells B.slots ∧ Post ⟨T.setVm vm₁, locs, cells, slots⟩ (Value.ref b :: argsL).toArray v B ∧
      ∀ target, Steps p.tables e below (B.U.setTop { g with pc := g.pc + 3, stack := v.toList ++ rest }) target → Steps p.tables e below (T.setTop g) target := by
  obtain ⟨mk, methM, hnamed, hmethM, hstM, habM⟩ := Cond.instanceMethod_spec hinst
  obtain ⟨m8, methM', cM, hn8, hmethM', -, -, -, -, -, -, hsigM⟩ := Cond.codeWith_spec hcode
  cases Option.some.inj (hn8.symm.trans hnamed)
  cases hmethM.symm.trans hmethM'
  obtain ⟨c2, r2, m2, q1, q2, q3, q4, kP, hkP, hkPi⟩ := Cond.selects_spec hsel
  cases hcls.symm.trans q1
  cases (State.methodFound?_of_named hnamed hy).symm.trans q2
  cases hnamed.symm.trans q3
  have hselP : selectMethod e.platform s.vm cellB.cls mk = .method mk := by rw [Launch.admits_selectMethod X.admits]; exact q4
  obtain ⟨vm₁, X₁, hstep₁⟩ := X.invokevirtual hexec hown hlink hnamed hmethM hstM hkP hkPi hy (a := b) (cell := cellB) hcell
    (fun z h => by rw [h] at hobj; cases hobj) hselP hmethM habM hkP hkPi (g := g) hg (argsL := argsL) (rest := rest) (hlen _ hsigM) hstack hdg
  obtain ⟨v, B, X', hpost, hsteps⟩ := hK m meth c ⟨T.setVm vm₁, locs, cells, slots⟩ { g with stack := rest } (.invokevirtual index) mk (Value.ref b :: argsL).toArray X₁ hg hsize hdg hW (X₁.named hnamed) (hpre vm₁ X₁.warmed)
  exact ⟨v, vm₁, B, X₁.warmed, X', hpost, fun target h => hstep₁ _ fun acts => by rw [doInvoke_state]; exact hsteps.trans h⟩
abbrev vx_CVW (R : Room) (s : State) (args : Array Value) (own C : String) (index : Nat) (y : MethodName) (bytes : ByteArray) (maxL : Nat) (ret : Option FieldType) (hh : List (Nat × Nat × Nat × Nat)) (ws : List Cond) (rm : Room) (mc ms n : Nat) : Prop :=
  (rm.cells = mc ∧ rm.slots = ms ∧ rm.frames + 1 ≤ R.frames ∧ 8 + (maxL + 11) + rm.locals ≤ R.locals ∧ (∀ w ∈ ws, ∀ (a' : Array Value) (U : State), s.WarmedH U.vm → w.before a' U = true) ∧ Cond.codeWith y bytes maxL ret hh ∈ ws) ∧
  (Cond.codeWith y bytes maxL ret hh).before args s = true ∧ (Cond.initialized y.cls).before args s = true ∧ (y.cls ≠ "java/lang/invoke/MethodHandle" ∧ y.cls ≠ "java/lang/invoke/VarHandle") ∧
  (∀ sig, parseMethodDescriptor y.desc = some sig → n = sig.parameters.length) ∧ (Cond.methodLink own index y).before args s = true ∧ (Cond.instanceMethod y).before args s = true ∧ (Cond.selects C y y).before args s = true
theorem vx_cwVW {own C : String} {index maxL mc ms : Nat} {y : MethodName} {bytes : ByteArray} {ret : Option FieldType} {hh : List (Nat × Nat × Nat × Nat)} {Ts ws ws' : List Cond} {rm : Room} (n : Nat) (ht : ∀ w ∈ Ts, w.before args s = true) (hT : GoodIn Ts (wsV own index C y ws)) (hw : ws = Cond.codeWith y bytes maxL ret hh :: ws') (hrc : rm.cells = mc) (hrs : rm.slots = ms)
    (hd : y.cls = C ∧ y.cls ≠ "java/lang/invoke/MethodHandle" ∧ y.cls ≠ "java/lang/invoke/VarHandle" ∧ (parseMethodDescriptor y.desc).map (fun d => d.parameters.length) = some n) (hR : rm.frames + 1 ≤ R.frames ∧ 8 + (maxL + 11) + rm.locals ≤ R.locals) :
    vx_CVW R s args own C index y bytes maxL ret hh ws rm mc ms n := by
  obtain ⟨hC, hd⟩ := hd
  subst hC
  have ok : ∀ w ∈ wsV own index y.cls y ws, w.before args s = true := fun w h => ht w (hT w h).1
  have hG : GoodIn Ts ws := fun w h => hT w (by unfold wsV; exact List.mem_append_right _ h)
  have hc : Cond.codeWith y bytes maxL ret hh ∈ ws := by rw [hw]; exact List.mem_cons_self
  refine ⟨⟨hrc, hrs, hR.1, hR.2, pay_in ht hG, hc⟩, ht _ (hG _ hc).1, ok _ (by simp [wsV]), ⟨hd.1, hd.2.1⟩, fun sig h => ?_, ok _ (by simp [wsV]), ok _ (by simp [wsV]), ok _ (by simp [wsV])⟩
  have h2 := hd.2.2
  rw [h] at h2
  exact (Option.some.inj h2).symm
theorem vx_runVW {y : MethodName} {bytes cc : ByteArray} {maxL nL mc ms n index : Nat} {ret : Option FieldType} {hh : List (Nat × Nat × Nat × Nat)} {ws : List Cond} {rm : Room} {Pc : Array Value → State → Prop} {Qc : Array Value → State → Outcome → State → Prop} {free : Addr → Prop} {Ts : List Cond} {own C : String} {b : Addr} {As rest : List Value} {g : JFrame}
    (S : CallFix p m c cc nL s args Ts own) (hM : Met l y ws rm Pc Qc mc ms free) (cw : vx_CVW R s args own C index y bytes maxL ret hh ws rm mc ms n) (hp : PreV s H C b Pc As)
    (hg : g.method = m) (hn : As.length = n) (hsize : g.locals.size = nL) (hstack : g.stack = As.reverse ++ .ref b :: rest) (hW : 2 * g.monitorRoom + (rest.map fun v => v.category).sum ≤ 8) (hdg : decode cc g.pc = .ok (.invokevirtual index, 3)) (hf : cells + mc ≤ R.cells ∧ slots + ms ≤ R.slots) :
    va_Run p l e R s m args below meth c H locs cells slots mc ms g rest (Qc (Value.ref b :: As).toArray) free := by
  obtain ⟨⟨hrc, hrs, hfr, hlo, hws, hcw⟩, hcode, hini, hy, hlen, hl, hin, hse⟩ := cw
  have hK : Back l R p e below s args y 3 8 (PreOf R mc ms Pc) (PostOf Qc mc ms free) := va_backW (hh := hh) (bytes := bytes) (maxL := maxL) (ret := ret) hM hp.1 hrc hrs hfr hlo hws hcw (fun a' U hW => word_at hW (Or.inl (by first | rfl | simp [Cond.onTables, Cond.keeps, Cond.steady])) hini)
  obtain ⟨hx, hb, hml, ho, -⟩ := S
  obtain ⟨-, ⟨cellB, hcB, hoB, hclB⟩, hPc⟩ := hp
  intro T hT X
  obtain ⟨v, vm₁, ⟨U', l2, c2, s2⟩, hW₁, X', ⟨g', mk, t, L, e1, e2, hq, h1, hL, h2, h3⟩, st⟩ := vx_callVW X hx (C := C) (hh := hh) (bytes := bytes) (maxL := maxL) (ret := ret) ho hl hin hse hcode hy hK (by rw [hT]; exact hcB) hoB hclB hg (hsize.trans hml.symm) (argsL := As) (rest := rest) (fun sig h => hn.trans (hlen sig h)) hstack hW (by rw [hb]; exact hdg)
    (fun vm₁ hW₁ => ⟨hf.1, hf.2, hPc (T.setVm vm₁) hT hW₁⟩)
  dsimp only [Pt.U, Pt.locs, Pt.cells, Pt.slots] at X' e1 e2 h1 h2 h3 st
  subst h1; subst h2; subst h3
  exact ⟨v, (T.setVm vm₁).calling g' mk (Value.ref b :: As).toArray, t, U', L, hT, X', hL, e1, e2, hq, st⟩
section
variable {y : MethodName} {bytes cc : ByteArray} {maxL nL mc ms n index : Nat} {ret : Option FieldType} {ws : List Cond} {rm : Room} {Pc : Array Value → State → Prop} {Qc : Array Value → State → Outcome → State → Prop} {XC : String → State → State → Prop} {free : Addr → Prop} {Ts : List Cond} {own C : String} {b : Addr} {As rest : List Value} {g : JFrame}
theorem vx_runVX {hh : List (Nat × Nat × Nat × Nat)} (S : CallFix p m c cc nL s args Ts own) (hM : vx_Met l y ws rm Pc Qc XC mc ms free) (cw : vx_CVW R s args own C index y bytes maxL ret hh ws rm mc ms n) (hp : PreV s H C b Pc As)
    (hg : g.method = m) (hn : As.length = n) (hsize : g.locals.size = nL) (hstack : g.stack = As.reverse ++ .ref b :: rest) (hW : 2 * g.monitorRoom + (rest.map fun v => v.category).sum ≤ 8) (hdg : decode cc g.pc = .ok (.invokevirtual index, 3)) (hf : cells + mc ≤ R.cells ∧ slots + ms ≤ R.slots) :
    vx_Run p l e R s m args below meth c H locs cells slots mc ms g rest (Qc (Value.ref b :: As).toArray) XC free := by
  obtain ⟨⟨hrc, hrs, hfr, hlo, hws, hcw⟩, hcode, hini, hy, hlen, hl, hin, hse⟩ := cw
  have hK : vx_Back l R p e below s args y 3 8 (PreOf R mc ms Pc) (PostOf Qc mc ms free) (vx_Post XC mc ms free) := vx_backW (hh := hh) (bytes := bytes) (maxL := maxL) (ret := ret) hM hp.1 hrc hrs hfr hlo hws hcw (fun a' U hW => word_at hW (Or.inl (by first | rfl | simp [Cond.onTables, Cond.keeps, Cond.steady])) hini)
  obtain ⟨hx, hb, hml, ho, -⟩ := S
  obtain ⟨-, ⟨cellB, hcB, hoB, hclB⟩, hPc⟩ := hp
  intro T hT X
  rcases vx_callVX X hx (C := C) (hh := hh) (bytes := bytes) (maxL := maxL) (ret := ret) ho hl hin hse hcode hy hK (by rw [hT]; exact hcB) hoB hclB hg (hsize.trans hml.symm) (argsL := As) (rest := rest) (fun sig h => hn.trans (hlen sig h)) hstack hW (by rw [hb]; exact hdg)
    (fun vm₁ hW₁ => ⟨hf.1, hf.2, hPc (T.setVm vm₁) hT hW₁⟩) with ⟨v, vm₁, ⟨U', l2, c2, s2⟩, hW₁, X', ⟨g', mk, t, L, e1, e2, hq, h1, hL, h2, h3⟩, st⟩ | ⟨q, vm₁, ⟨U', l2, c2, s2⟩, hW₁, X', ⟨g', mk, t, L, E, ce, e1, e2, hq, hce, hcv, hcl, h1, hL, h2, h3⟩, st⟩
  · dsimp only [Pt.U, Pt.locs, Pt.cells, Pt.slots] at X' e1 e2 h1 h2 h3 st
    subst h1; subst h2; subst h3
    exact Or.inl ⟨v, (T.setVm vm₁).calling g' mk (Value.ref b :: As).toArray, t, U', L, hT, X', hL, e1, e2, hq, st⟩
  · dsimp only [Pt.U, Pt.locs, Pt.cells, Pt.slots] at X' e1 e2 h1 h2 h3 st hcl
    subst h1; subst h2; subst h3
    exact Or.inr ⟨q, (T.setVm vm₁).calling g' mk (Value.ref b :: As).toArray, t, U', L, E, ce, hT, X', hL, e1, e2, hq, hce, hcv, vx_cls hW₁ hcl, st⟩
theorem vx_runSX {hh : List (Nat × Nat × Nat × Nat)} (S : CallFix p m c cc nL s args Ts own) (hM : vx_Met l y ws rm Pc Qc XC mc ms free) (cw : vx_CSW R s args own index y bytes maxL ret hh ws rm mc ms n) (hp : PreS s H Pc As)
    (hg : g.method = m) (hn : As.length = n) (hsize : g.locals.size = nL) (hstack : g.stack = As.reverse ++ rest) (hW : 2 * g.monitorRoom + (rest.map fun v => v.category).sum ≤ 8) (hdg : decode cc g.pc = .ok (.invokestatic index, 3)) (hf : cells + mc ≤ R.cells ∧ slots + ms ≤ R.slots) :
    vx_Run p l e R s m args below meth c H locs cells slots mc ms g rest (Qc As.toArray) XC free := by
  obtain ⟨⟨hrc, hrs, hfr, hlo, hws, hcw⟩, hcode, hini, hy, hlen, hl, hstt⟩ := cw
  have hK : vx_Back l R p e below s args y 3 8 (PreOf R mc ms Pc) (PostOf Qc mc ms free) (vx_Post XC mc ms free) := vx_backW (hh := hh) (bytes := bytes) (maxL := maxL) (ret := ret) hM hp.1 hrc hrs hfr hlo hws hcw (fun a' U hW => word_at hW (Or.inl (by first | rfl | simp [Cond.onTables, Cond.keeps, Cond.steady])) hini)
  obtain ⟨hx, hb, hml, ho, -⟩ := S
  intro T hT X
  rcases vx_callSX X hx (hh := hh) (bytes := bytes) (maxL := maxL) (ret := ret) ho hl hstt hini hcode hy hK hg (hsize.trans hml.symm) (argsL := As) (rest := rest) (fun sig h => hn.trans (hlen sig h)) hstack hW (by rw [hb]; exact hdg)
    (fun vm₁ hW₁ => ⟨hf.1, hf.2, hp.2 (T.setVm vm₁) hT hW₁⟩) with ⟨v, vm₁, ⟨U', l2, c2, s2⟩, hW₁, X', ⟨g', mk, t, L, e1, e2, hq, h1, hL, h2, h3⟩, st⟩ | ⟨q, vm₁, ⟨U', l2, c2, s2⟩, hW₁, X', ⟨g', mk, t, L, E, ce, e1, e2, hq, hce, hcv, hcl, h1, hL, h2, h3⟩, st⟩
  · dsimp only [Pt.U, Pt.locs, Pt.cells, Pt.slots] at X' e1 e2 h1 h2 h3 st
    subst h1; subst h2; subst h3
    exact Or.inl ⟨v, (T.setVm vm₁).calling g' mk As.toArray, t, U', L, hT, X', hL, e1, e2, hq, st⟩
  · dsimp only [Pt.U, Pt.locs, Pt.cells, Pt.slots] at X' e1 e2 h1 h2 h3 st hcl
    subst h1; subst h2; subst h3
    exact Or.inr ⟨q, (T.setVm vm₁).calling g' mk As.toArray, t, U', L, E, ce, hT, X', hL, e1, e2, hq, hce, hcv, vx_cls hW₁ hcl, st⟩
end
end VXH
theorem vx_ofWH {l : Launch} {y : MethodName} {ws ws' : List Cond} {rm : Room} {Pc : Array Value → State → Prop} {Qc : Array Value → State → Outcome → State → Prop} {XC : String → State → State → Prop} {mc ms : Nat} {free : Addr → Prop} {cc : ByteArray} {maxL : Nat} {ret : Option FieldType} {hh : List (Nat × Nat × Nat × Nat)}
    (hy : plainName y.cls = true) (hw : ws = Cond.codeWith y cc maxL ret hh :: ws')
    (body : ∀ p e s m args below meth c s₁, BodyLoose p l y (headSpec ws rm) cc maxL ret e s m args below meth c s₁ → c.maxLocals = maxL → Pc args s →
      W p l e (headSpec ws rm).room s m args below meth c s.heap [] 0 0 (vx_MQ below Qc XC args s mc ms free) (entryFrame m args maxL)) : vx_Met l y ws rm Pc Qc XC mc ms free := by
  refine MetFree.of_bodyS (code := cc) (maxLocals := maxL) (ret := ret) hy ?_ ?_
  · intro args s m h hn
    obtain ⟨m9, meth, c, hn9, h1, h2, h3, h4, -, h5, h6, -⟩ := Cond.codeWith_spec (atoms_spec (ws := ws) h _ (by rw [hw]; exact List.mem_cons_self))
    cases hn.symm.trans hn9
    exact ⟨meth, c, h1, h2, h3, h4, h5, h6⟩
  · intro p e s m args below meth c s₁ B hml hP _
    have hh0 : s₁.heap = s.heap := by rw [B.state]; rfl
    obtain ⟨t, a1, o, b1, b2, b3⟩ := body p e s m args below meth c s₁ B hml hP s₁ hh0 (Stand.of_body B)
    exact ⟨t, o, a1, b1, b2, b3⟩
/-! ===== END ===== -/
end
section
/-! ===== NoSuchElementException(String) calls its class above by the place 13 of its pool: rows of kit/laws, turned to that ===== -/
def nxSix : ByteArray := ⟨#[0x2a, 0x2b, 0xb7, 0x00, 0x0d, 0xb1]⟩
theorem nxSix_0 : decode nxSix 0 = .ok (.aload_n 0, 1) := by decide +kernel
theorem nxSix_1 : decode nxSix 1 = .ok (.aload_n 1, 1) := by decide +kernel
theorem nxSix_2 : decode nxSix 2 = .ok (.invokespecial 13, 3) := by decide +kernel
theorem nxSix_5 : decode nxSix 5 = .ok (.return_, 1) := by decide +kernel
def nxAt (own : String) (ic : Nat) (X Y : String) (names : List String) : List Cond := Bundle.throwableAtoms ++ Bundle.throwableSAtoms ++ (Bundle.passSAtoms X Y 13 nxSix ++ Bundle.chainSAtoms Y names) ++
  [.methodLink own ic (Bundle.initS X), .instantiable X 6, .castable X X, .selects X Bundle.tFill0 Bundle.tFill0, .selects X Bundle.tFill Bundle.tFill, .lays X Bundle.tN "cause" "Ljava/lang/Throwable;", .lays X Bundle.tN "stackTrace" Bundle.steD, .lays X Bundle.tN "suppressedExceptions" Bundle.listD, .lays X Bundle.tN "detailMessage" "Ljava/lang/String;", .isRef (.static Bundle.tN "UNASSIGNED_STACK" Bundle.steD), .isRef (.static Bundle.tN "SUPPRESSED_SENTINEL" Bundle.listD), .fieldLink Bundle.tN 198 Bundle.tN "backtrace" "Ljava/lang/Object;", .lays Bundle.tN Bundle.tN "backtrace" "Ljava/lang/Object;", .lays X Bundle.tN "backtrace" "Ljava/lang/Object;"]
def nxA : List Cond := (nxAt "RangePropagato\x72" 231 "java/util/NoSuchElementException" "java/lang/RuntimeException" ["java/lang/Exception"]).filter vx_no
theorem nx_chain {args : Array Value} {s : State} {pl : Platform} (hpl : pl.magicAccessors = ({} : Platform).magicAccessors) {top : MethodId} (htop : s.methodNamed? (Bundle.initS Bundle.tN) = some top) (sup : String) (names : List String) (X : String) (hX : Bundle.fit X = true) (hsup : Bundle.fit sup = true) (hn : ∀ n ∈ names, Bundle.fit n = true) (h : ∀ c ∈ Bundle.passSAtoms X sup 13 nxSix ++ Bundle.chainSAtoms sup names, c.before args s = true) :
    ∃ (P1 : PassC) (Ps : List PassC), Ps.length = names.length + 1 ∧ P1.LinksS pl s ∧ (∀ P, P ∈ Ps → P.LinksS pl s) ∧ s.methodNamed? (Bundle.initS X) = some P1.m ∧ P1.sup = firstOf top (Ps.map (·.toPassT)) ∧ PassesOn top (Ps.map (·.toPassT)) := by
  obtain ⟨P, LP, hm, hs⟩ := PassC.ofS_atoms (args := args) (s := s) hpl (X := X) (Y := sup) (Bundle.fit_spec hX).1 (Bundle.fit_spec hsup).2 nxSix_0 nxSix_1 nxSix_2 nxSix_5 (fun c hc => h c (List.mem_append_left _ hc))
  obtain ⟨P2, Ps, hlen, L2, hL, hm2, hs2, hp⟩ := Bundle.chainS (args := args) hpl htop names sup hsup hn (fun c hc => h c (List.mem_append_right _ hc))
  refine ⟨P, P2 :: Ps, by rw [List.length_cons, hlen], LP, fun Q hQ => ?_, hm, Option.some.inj (hs.symm.trans hm2), hs2, hp⟩
  rcases List.mem_cons.mp hQ with rfl | hQ
  · exact L2
  · exact hL Q hQ
section NXB
variable {p : Program} {l : Launch} {e : Env} {R : Room} {s : State} {m : MethodId} {args : Array Value} {below : List Frame} {meth : Method} {c : Code} {H : Heap} {locs : List Loc} {cells slots : Nat}
/-- a frame seen from a rebased start, seen from the first start again -/
theorem vx_back9 {T S : State} {R' : Room} {k n : Nat} (X : Stand p l e R s m args below meth c T locs cells slots) (Y : Stand p l e R' ((T.setVm s.vm).setFrames (.invoking m args :: below)) m args below meth c T [] 0 0) (Z : Stand p l e R' ((T.setVm s.vm).setFrames (.invoking m args :: below)) m args below meth c S [] k n) :
    Stand p l e R s m args below meth c S locs (cells + k) (slots + n) := by
  have hW0 : s.WarmedH ((T.setVm s.vm).setFrames (.invoking m args :: below)).vm := State.WarmedH.refl s
  refine { admits := X.admits, cas := X.cas, clock := X.clock, frames := X.frames, room := X.room, hears := X.hears, method := X.method, code := X.code, here := Z.here, tail := Z.tail, warmed := State.WarmedH.trans hW0 Z.warmed, limits := Z.limits.trans (Y.limits.symm.trans X.limits), bytes := Z.bytes.trans (Y.bytes.symm.trans X.bytes), same := ?_ }
  obtain ⟨e1, e2⟩ := Z.same
  rw [State.setFrames_setFrames] at e1
  have h2 : (T.setVm s.vm).sameButNew (S.setVm s.vm) [] k n := ⟨e1, e2⟩
  have h3 := X.same.trans h2
  rw [List.append_nil] at h3
  exact h3
end NXB
section NXK
variable {p : Program} {l : Launch} {e : Env} {R : Room} {s : State} {m₀ : MethodId} {args : Array Value} {below : List Frame} {meth : Method} {c : Code} {W : State} {locs : List Loc} {cells slots : Nat}
set_option maxHeartbeats 1000000 in
theorem nx_ctorMadeS (X : Stand p l e R s m₀ args below meth c W locs cells slots) (hexec : p.tables.exec = Jvm.exec) (htr : e.platform.stackTraces = false) {own cls sup : String} {names : List String} {ic : Nat}
    (hown : s.vm.findClass own = some m₀.cls) (hcls : Bundle.fit cls = true) (hsup : Bundle.fit sup = true) (hnames : ∀ n ∈ names, Bundle.fit n = true)
    (h : ∀ a ∈ nxAt own ic cls sup names, a.before args s = true)
    (hlocs : ∀ x ∈ locs, ∀ cell, s.heap[x.base]? = some cell → cell.vm.isStatics = false)
    {a : Addr} {cX : ClassId} {kX : Class} (hfoundX : s.vm.findClass cls = some cX) (hkX : s.vm.classes[cX]? = some kX) (hcell : W.heap[a]? = some (freshCell cX kX)) (hnew : s.heap.size ≤ a)
    {msg : Value} (hmsg : msg.isRef = true)
    {g : JFrame} (hg : g.method = m₀) (hsize : g.locals.size = c.maxLocals) {rest : List Value} (hstack : g.stack = msg :: .ref a :: .ref a :: rest)
    (hd6 : decode c.code g.pc = .ok (.invokespecial ic, 3))
    (hRframes : names.length + 4 < R.frames) (hRlocals : 2 * g.monitorRoom + ((Value.ref a :: rest).map fun v => v.category).sum + (13 * (names.length + 2) + 42) ≤ R.locals) :
    ∃ (V : State) (ce : Cell) (L : List Loc), Stand p l e R s m₀ args below meth c (V.setCell a ce) (locs ++ L) cells slots ∧ (∀ y ∈ L, y.base = a) ∧ a < V.heap.size ∧ ce.cls = cX ∧ ce.vm = .none ∧
      ∀ target, Steps p.tables e below ((V.setCell a ce).setTop { g with stack := .ref a :: rest, pc := g.pc + 3 }) target → Steps p.tables e below (W.setTop g) target := by
  have howns : e.platform.frameOwnsMonitors = true := by rw [X.admits.platform]
  have hfin : e.platform.finalization = false := by rw [X.admits.platform]
  have hpl : e.platform.magicAccessors = ({} : Platform).magicAccessors := by rw [X.admits.platform]
  have a' : ∀ x, x ∈ nxAt own ic cls sup names → x.holds args s none s [] = true := fun x hx => h x hx
  obtain ⟨T, Z0, L, -, Y⟩ := ThrowableC.of_atoms (args := args) howns hfin hpl (fun x hx => h x (by simp [nxAt, hx]))
  obtain ⟨Z, M, LZ, LM, hnZ⟩ := Init0T.ofS_atoms (args := args) hpl L Y (fun x hx => h x (by simp [nxAt, hx]))
  obtain ⟨P1, Ps, hlen, L1, hL, hP1m, hlink1, hlink⟩ := nx_chain (args := args) hpl hnZ sup names cls hcls hsup hnames (fun x hx => h x (List.mem_append_left _ (List.mem_append_right _ hx)))
  have hfound : s.vm.findClass cls = some P1.m.cls := findClass_of_methodNamed hP1m
  cases Option.some.inj (hfoundX.symm.trans hfound)
  obtain ⟨c1, kX', hc1, hk, hord, -, -, hn6⟩ := Cond.instantiable_spec (a' (.instantiable cls 6) (by simp [nxAt]))
  cases Option.some.inj (hc1.symm.trans hfound)
  cases Option.some.inj (hkX.symm.trans hk)
  have hsel0 : selectMethod e.platform s.vm P1.m.cls T.fill0 = .method T.fill0 := by
    obtain ⟨c2, r2, m2, q1, q2, q3, q4, -⟩ := Cond.selects_spec (a' (.selects cls Bundle.tFill0 Bundle.tFill0) (by simp [nxAt]))
    cases Option.some.inj (q1.symm.trans hfound)
    cases Option.some.inj (q2.symm.trans (State.methodFound?_of_named Y.fill0 (by decide)))
    cases Option.some.inj (q3.symm.trans Y.fill0)
    rw [Launch.admits_selectMethod X.admits]; exact q4
  have hselF : selectMethod e.platform s.vm P1.m.cls T.fill = .method T.fill := by
    obtain ⟨c2, r2, m2, q1, q2, q3, q4, -⟩ := Cond.selects_spec (a' (.selects cls Bundle.tFill Bundle.tFill) (by simp [nxAt]))
    cases Option.some.inj (q1.symm.trans hfound)
    cases Option.some.inj (q2.symm.trans (State.methodFound?_of_named Y.fill (by decide)))
    cases Option.some.inj (q3.symm.trans Y.fill)
    rw [Launch.admits_selectMethod X.admits]; exact q4
  obtain ⟨cellS0, hcS0, hiss⟩ := Y.statics
  obtain ⟨u0, hu0⟩ := Cond.staticRefV Y.unassigned L.unassignedStatic L.statics hcS0 hiss (a' (.isRef (.static Bundle.tN "UNASSIGNED_STACK" Bundle.steD)) (by simp [nxAt]))
  obtain ⟨sen, hsen⟩ := Cond.staticRefV Y.sentinel L.sentinelStatic L.statics hcS0 hiss (a' (.isRef (.static Bundle.tN "SUPPRESSED_SENTINEL" Bundle.listD)) (by simp [nxAt]))
  obtain ⟨ci198, i198, fB, hk198, hg198, ha198, hsB, -, hnB, htB, hffB⟩ := Cond.ownField (t := .object "java/lang/Object") Y.found L.cls (by decide +kernel) (a' (.fieldLink Bundle.tN 198 Bundle.tN "backtrace" "Ljava/lang/Object;") (by simp [nxAt])) (a' (.lays Bundle.tN Bundle.tN "backtrace" "Ljava/lang/Object;") (by simp [nxAt])) e.platform hpl
  obtain ⟨cellS, hcS', heS, -, hkeep⟩ := X.same.2.2.2.2.2 T.aS cellS0 hcS0
  have hcellS : W.heap[T.aS]? = some cellS := hcS'
  have hout' : ∀ i, (⟨T.aS, i⟩ : Loc) ∉ locs := fun i hmem => by
    have := hlocs _ hmem cellS0 hcS0
    rw [hiss] at this; cases this
  have hknownS : cellS.vm ≠ .unknown := by
    rw [heS]; intro hu
    rw [show cellS0.vm = .unknown from hu] at hiss
    cases hiss
  have hneS : T.aS ≠ a := Nat.ne_of_lt (Nat.lt_of_lt_of_le (Array.getElem?_eq_some_iff.mp hcS0).1 hnew)
  obtain ⟨iM, hffM⟩ := Y.msg
  obtain ⟨tyC, dC, hdC, hdnC⟩ := Cond.laysAt hfound hk Y.cause (a' (.lays cls Bundle.tN "cause" "Ljava/lang/Throwable;") (by simp [nxAt]))
  obtain ⟨tyS, dS, hdS, hdnS⟩ := Cond.laysAt hfound hk Y.stack (a' (.lays cls Bundle.tN "stackTrace" Bundle.steD) (by simp [nxAt]))
  obtain ⟨tyP, dP, hdP, hdnP⟩ := Cond.laysAt hfound hk Y.supp (a' (.lays cls Bundle.tN "suppressedExceptions" Bundle.listD) (by simp [nxAt]))
  obtain ⟨tyM, dM, hdM, hdnM⟩ := Cond.laysAt hfound hk hffM (a' (.lays cls Bundle.tN "detailMessage" "Ljava/lang/String;") (by simp [nxAt]))
  obtain ⟨tyB, dB, hdB, hdnB⟩ := Cond.laysAt hfound hk hffB (a' (.lays cls Bundle.tN "backtrace" "Ljava/lang/Object;") (by simp [nxAt]))
  have bC := Cond.laysApart hdB hdC hdnB hdnC (by rw [hnB, Y.causeName]; decide)
  have bS := Cond.laysApart hdB hdS hdnB hdnS (by rw [hnB, Y.stackName]; decide)
  have bP := Cond.laysApart hdB hdP hdnB hdnP (by rw [hnB, Y.suppName]; decide)
  have hskip : SkipFacts T e.platform s (fun u => u) u0 ((preparedCellV T.toThrowableT (freshCell P1.m.cls kX) a u0 sen).withEntry W.cur) :=
    ⟨{ ci198 := ci198, i198 := i198, fBack := fB }, ⟨hk198, hg198, ha198, hsB⟩, by
      have := fresh_default (c := P1.m.cls) tyB
      rw [htB] at this
      simpa [preparedCellV, Cell.setSlot, Cell.withEntry, Array.getElem?_setIfInBounds, bC, bS, bP, bC.symm, bS.symm, bP.symm, defaultValue] using this, fun _ _ => rfl⟩
  obtain ⟨tm, methC, cdC, kC, vm₁, hnC, -, -, -, -, -, -, -, hW₁, st1⟩ := Steps.initColdS (tb := p.tables) (e := e) (below := below) (s := s) (U := W) X.here hexec X.warmed hpl hown (t := Bundle.initS cls) rfl rfl (Bundle.fit_spec hcls).2
    (a' (.methodLink own ic (Bundle.initS cls)) (by simp [nxAt])) (h (.instanceMethod (Bundle.initS cls)) (by simp [nxAt, Bundle.passSAtoms])) (bytes := nxSix) (maxL := 2) (h (.code (Bundle.initS cls) nxSix 2 none) (by simp [nxAt, Bundle.passSAtoms]))
    (f := g) hg (a := a) (msg := msg) (rest := .ref a :: rest) hstack hd6
  cases Option.some.inj (hnC.symm.trans hP1m)
  have X₁ := X.noted hW₁
  obtain ⟨vm₂, X₂, st2⟩ := X₁.ctorMessageOffV hexec (g := { g with stack := .ref a :: rest }) hg hsize T L Z LZ M LM (P1 :: Ps)
    (fun P hP => by rcases List.mem_cons.mp hP with rfl | hP; exact L1; exact hL P hP) ⟨hlink1, hlink⟩ (u0 := u0) (sen := sen) (self := a) hmsg (cell := freshCell P1.m.cls kX) (cellS := cellS)
    hcell (fun _ => by simp) (by simp) rfl rfl hsel0 hselF hcellS hneS hknownS (by rw [hkeep _ (hout' _)]; exact hu0) (by rw [hkeep _ (hout' _)]; exact hsen)
    (Takes.of_laid hk hord tyC (by rw [Y.causeType]; rfl)) (Takes.of_laid hk hord tyS (by rw [Y.stackType]; exact fits_refV_array _ u0)) (Takes.of_laid hk hord tyP (by rw [Y.suppType]; exact fits_refV_object _ sen))
    (Takes.of_laid hk hord tyM (by rw [Y.msgType]; exact fits_refV_object _ ⟨msg, hmsg⟩)) Y.objLocals hskip htr [] hd6
    (by simp only [List.length_cons, hlen]; omega) (by simp only [List.length_cons, hlen]; exact hRlocals)
  have hlt : a < ((W.setVm vm₁).setVm vm₂).heap.size := (Array.getElem?_eq_some_iff.mp hcell).1
  refine ⟨(W.setVm vm₁).setVm vm₂, _, _, X₂, fun y hy => ?_, hlt, rfl, rfl, fun target hwalk => st1 _ (fun acts => ?_)⟩
  · simp only [List.mem_cons, List.not_mem_nil, or_false] at hy
    rcases hy with rfl | rfl | rfl | rfl | rfl <;> rfl
  · rw [doInvoke_state]
    exact st2 _ hwalk
end NXK
section NXM
variable {p : Program} {l : Launch} {e : Env} {R : Room} {s : State} {m : MethodId} {args : Array Value} {below : List Frame} {meth : Method} {c : Code} {H : Heap} {locs : List Loc} {cells slots : Nat} {Q : State → Prop} {ls : Array Slot} {rest : List Value}
/-- 'new E("text")': the object goes on the stack -/
theorem nx_makeS {cc : ByteArray} {pc : Nat} (hexec : p.tables.exec = Jvm.exec) (hb : c.code = cc) (hl : l.stackTraces = false) {own cls sup text : String} {names : List String} {ik is ic sa : Nat} {A : Nat → Prop}
    (hown : s.vm.findClass own = some m.cls) (hcls : Bundle.fit cls = true) (hsup : Bundle.fit sup = true) (hnames : ∀ n ∈ names, Bundle.fit n = true)
    (hk : (Cond.classLink own ik cls).before args s = true) (hini : (Cond.initialized cls).before args s = true) (hstr : vk_R own is text sa s) (hat : ∀ w ∈ (nxAt own ic cls sup names).filter vx_no, w.before args s = true)
    (hgood : ∀ w ∈ Cond.classLink own ik cls :: Cond.initialized cls :: (nxAt own ic cls sup names).filter vx_no, vx_ot w = true)
    (hU : vx_Zq Bundle.tN "UNASSIGNED_STACK" Bundle.steD A s s.heap) (hN : vx_Zq Bundle.tN "SUPPRESSED_SENTINEL" Bundle.listD A s s.heap) (hS : va_S A s.heap H locs) (hsize : ls.size = c.maxLocals)
    (d0 : decode cc pc = .ok (.new ik, 3)) (d3 : decode cc (pc + 3) = .ok (.dup, 1)) (d4 : decode cc (pc + 4) = .ok (.ldc is, 2)) (d6 : decode cc (pc + 6) = .ok (.invokespecial ic, 3))
    (hRframes : names.length + 4 < R.frames) (hRlocals : (rest.map fun v => v.category).sum + (13 * (names.length + 2) + 43) ≤ R.locals) (hRcells : cells + 1 ≤ R.cells) (hRslots : slots + 6 ≤ R.slots)
    (kk : ∀ (q : Nat) (ce : Cell) (H1 : Heap), H1[q]? = some ce → ce.vm = .none → s.vm.findClass cls = some ce.cls → H.size ≤ H1.size → (∀ z : Nat, z < H.size → H1[z]? = H[z]?) → W p l e R s m args below meth c H1 locs (cells + 1) (slots + 6) Q (F0 m (pc + 9) ls (.ref q :: rest))) :
    W p l e R s m args below meth c H locs cells slots Q (F0 m pc ls rest) := by
  intro T hT X
  subst hT
  have htr : e.platform.stackTraces = false := (show e.platform.stackTraces = l.stackTraces by rw [X.admits.platform]).trans hl
  have Y := vx_rebase X (R' := { frames := R.frames, locals := R.locals, cells := 1, slots := 6 }) (Nat.le_refl _) (Nat.le_refl _) hRcells hRslots
  obtain ⟨s', hA'⟩ : ∃ z, z = (T.setVm s.vm).setFrames (.invoking m args :: below) := ⟨_, rfl⟩
  rw [← hA'] at Y
  have hvm : s'.vm = s.vm := by rw [hA']; rfl
  have hhp : s'.heap = T.heap := by rw [hA']; rfl
  have hW0 : s.WarmedH s'.vm := by rw [hvm]; exact State.WarmedH.refl s
  have hat' : ∀ w ∈ (nxAt own ic cls sup names).filter vx_no, w.before args s' = true := fun w hw => vx_ot_at hW0 hvm.symm (hgood w (List.mem_cons_of_mem _ (List.mem_cons_of_mem _ hw))) (hat w hw)
  have hk' : (Cond.classLink own ik cls).before args s' = true := vx_ot_at hW0 hvm.symm (hgood _ List.mem_cons_self) hk
  have hini' : (Cond.initialized cls).before args s' = true := vx_ot_at hW0 hvm.symm (hgood _ (List.mem_cons_of_mem _ List.mem_cons_self)) hini
  have hU' : vx_Zq Bundle.tN "UNASSIGNED_STACK" Bundle.steD A s' s'.heap := by rw [hhp]; exact vx_Zq.moved hW0.alike (hU.kept hS.2.1)
  have hN' : vx_Zq Bundle.tN "SUPPRESSED_SENTINEL" Bundle.listD A s' s'.heap := by rw [hhp]; exact vx_Zq.moved hW0.alike (hN.kept hS.2.1)
  have h : ∀ w ∈ nxAt own ic cls sup names, w.before args s' = true := vx_own hat' (vx_isRefq hU'.1) (vx_isRefq hN'.1) hU'.2.word hN'.2.word
  have hown' : s'.vm.findClass own = some m.cls := by rw [hvm]; exact hown
  have hins : (Cond.instantiable cls 6).before args s' = true := h _ (by simp [nxAt])
  obtain ⟨vm₁, cX, kX, hfX, hkX, -, -, X₁, st1⟩ := Y.newCold hexec (own := own) (C := cls) (index := ik) (n := 6) hown' hk' hins hini'
    (g := F0 m pc ls rest) rfl (by rw [hb]; exact d0) (Nat.le_refl _) (Nat.le_refl _)
  generalize hT1 : (T.setVm vm₁).pushCell { cls := cX, slots := kX.instanceTypes.map defaultValue, vm := .none } = T1 at X₁ st1
  have hcat : (Value.ref T.heap.size).category = 1 := rfl
  have hcellA : T1.heap[T.heap.size]? = some (freshCell cX kX) := by rw [← hT1]; exact State.heap_pushCell_size _ _
  have d3' : decode c.code (pc + 3) = .ok (.dup, 1) := by rw [hb]; exact d3
  have d4' : decode c.code (pc + 4) = .ok (.ldc is, 2) := by rw [hb]; exact d4
  have hstr' : vk_R own is text sa s' := vk_R.warm hW0 hstr
  obtain ⟨V, ce, L, Z, hL, hlt, hcl9, hvm9, st⟩ := nx_ctorMadeS X₁ hexec htr (own := own) (cls := cls) (sup := sup) (names := names) (ic := ic) hown' hcls hsup hnames h (fun x hx => nomatch hx) hfX hkX hcellA (by rw [hhp]; exact Nat.le_refl _) (msg := .ref sa) rfl
    (g := { method := m, pc := pc + 6, locals := ls, stack := .ref sa :: .ref T.heap.size :: .ref T.heap.size :: rest, locked := none }) rfl hsize (rest := rest) rfl
    (by rw [hb]; exact d6) hRframes (by simp only [List.map_cons, List.sum_cons, hcat]; omega)
  have Z0 := Stand.forget (locs := []) Z (fun y hy => by rw [hL y hy, hhp]; exact Nat.le_refl _)
  obtain ⟨f1, f2⟩ := vx_frame Z0.same
  rw [hhp] at f1 f2
  have hh : (V.setCell T.heap.size ce).heap[T.heap.size]? = some ce := heapAt_setCell_self (s := V) ce hlt
  subst hA'
  have X5 := vx_back9 X Y Z0
  have X6 : Stand p l e R s m args below meth c (V.setCell T.heap.size ce) locs (cells + 1) (slots + 6) := { X5 with same := X5.same.mono (by omega) (by omega) }
  have hfc : s.vm.findClass cls = some ce.cls := by rw [hcl9, ← hvm]; exact hfX
  obtain ⟨t, a1, b1⟩ := kk T.heap.size ce (V.setCell T.heap.size ce).heap hh hvm9 hfc f1 (fun q hq => f2 q hq (fun z hz => nomatch hz)) _ rfl X6
  refine ⟨t, st1 _ ?_, b1⟩
  show Steps p.tables e below (T1.setTop { method := m, pc := pc + 3, locals := ls, stack := .ref T.heap.size :: rest, locked := none }) _
  jvm_step X₁.here [X₁.here.top, hexec, d3', Value.category]
  exact X₁.ldcString hexec (own := own) (text := text) (index := is) (a := sa) hown' hstr'.1 hstr'.2
    (g := { method := m, pc := pc + 4, locals := ls, stack := .ref T.heap.size :: .ref T.heap.size :: rest, locked := none }) rfl d4' _ (st _ a1)
/-- 'throw x' of an object that was made before -/
theorem nx_athrow {cc : ByteArray} {pc : Nat} (hexec : p.tables.exec = Jvm.exec) (hb : c.code = cc) {q : Addr} (hdg : decode cc pc = .ok (.athrow, 1)) (k : vx_W p l e R s m args below meth c H locs cells slots Q (F0 m pc ls rest) q) : W p l e R s m args below meth c H locs cells slots Q (F0 m pc ls (.ref q :: rest)) := by
  intro T hT X
  obtain ⟨t, st, hq⟩ := k T hT X
  refine ⟨t, ?_, hq⟩
  have hdg' : decode c.code pc = .ok (.athrow, 1) := by rw [hb]; exact hdg
  jvm_step X.here [X.here.top, hexec, hdg', athrow.wp_sem]
  exact st
end NXM
end
section

/-! ===== BEGIN printed: names, fields, word lists, decode rows ===== -/
def RX0 : String := "RangePropagator$Analysis"
def TX0 : u_T := fun k => match k with
  | 0 => ("RangePropagator$Analysis", "flows", "[LRangePropagator$Flow;", true)
  | 1 => ("RangePropagator$Analysis", "incoming", "LRangePropagator$State;", true)
  | _ => ("RangePropagator$Analysis", "joined", "LRangePropagator$State;", true)
def tyX0 : Nat → FieldType := fun k => match k with
  | 0 => .array (.object "RangePropagator$Flow")
  | 1 => .object "RangePropagator$State"
  | _ => .object "RangePropagator$State"
abbrev wsX00 : List Cond := u_ws RX0 TX0 3
theorem nmX0 : ∀ a, a < 3 → ∀ b, b < 3 → a ≠ b → (TX0 a).2.1 ≠ (TX0 b).2.1 := by decide +kernel
theorem tyX0_ok : ∀ k, k < 3 → parseFieldDescriptor (TX0 k).2.2.1 = some (tyX0 k) := by decide +kernel
abbrev cX0_init : ByteArray := prog_2_method_1_code
def yX0_init : MethodName := ⟨RX0, "<init>", "()V"⟩
abbrev cX0_forget : ByteArray := prog_2_method_2_code
def yX0_forget : MethodName := ⟨RX0, "forget", "()V"⟩
abbrev cX0_makeRounds : ByteArray := prog_2_method_3_code
def yX0_makeRounds : MethodName := ⟨RX0, "makeRounds", "(LRangePropagator$Program;LRangePropagator$Settings;)I"⟩
abbrev cX0_makeNarrowings : ByteArray := prog_2_method_4_code
def yX0_makeNarrowings : MethodName := ⟨RX0, "makeNarrowings", "(LRangePropagator$Program;I)V"⟩
abbrev cX0_lookAt : ByteArray := prog_2_method_5_code
def yX0_lookAt : MethodName := ⟨RX0, "lookAt", "(LRangePropagator$Program;LRangePropagator$Settings;I)Z"⟩
abbrev cX0_narrow : ByteArray := prog_2_method_6_code
def yX0_narrow : MethodName := ⟨RX0, "narrow", "(LRangePropagator$Program;I)V"⟩
abbrev cX0_gatherIncoming : ByteArray := prog_2_method_7_code
def yX0_gatherIncoming : MethodName := ⟨RX0, "gatherIncoming", "(LRangePropagator$Program;I)V"⟩
def RX1 : String := "RangePropagator$Arithmetic"
def TX1 : u_T := fun k => match k with
  | _ => ("", "", "", false)
def tyX1 : Nat → FieldType := fun k => match k with
  | _ => .int
abbrev wsX10 : List Cond := u_ws RX1 TX1 0
theorem nmX1 : ∀ a, a < 0 → ∀ b, b < 0 → a ≠ b → (TX1 a).2.1 ≠ (TX1 b).2.1 := by decide +kernel
theorem tyX1_ok : ∀ k, k < 0 → parseFieldDescriptor (TX1 k).2.2.1 = some (tyX1 k) := by decide +kernel
abbrev cX1_outcome : ByteArray := prog_3_method_2_code
def yX1_outcome : MethodName := ⟨RX1, "outcome", "(III)I"⟩
abbrev cX1_isTrue : ByteArray := prog_3_method_3_code
def yX1_isTrue : MethodName := ⟨RX1, "isTrue", "(III)Z"⟩
abbrev cX1_oppositeOfSwapped : ByteArray := prog_3_method_4_code
def yX1_oppositeOfSwapped : MethodName := ⟨RX1, "oppositeOfSwapped", "(I)I"⟩
def RX2 : String := "RangePropagator$Block"
def TX2 : u_T := fun k => match k with
  | 0 => ("RangePropagator$Block", "statementCount", "I", false)
  | 1 => ("RangePropagator$Block", "kinds", "[I", true)
  | 2 => ("RangePropagator$Block", "targets", "[I", true)
  | 3 => ("RangePropagator$Block", "firsts", "[I", true)
  | 4 => ("RangePropagator$Block", "seconds", "[I", true)
  | 5 => ("RangePropagator$Block", "edgeCount", "I", false)
  | 6 => ("RangePropagator$Block", "followers", "[I", true)
  | 7 => ("RangePropagator$Block", "branchX", "I", false)
  | 8 => ("RangePropagator$Block", "branchY", "I", false)
  | _ => ("RangePropagator$Block", "relation", "I", false)
def tyX2 : Nat → FieldType := fun k => match k with
  | 0 => .int
  | 1 => .array .int
  | 2 => .array .int
  | 3 => .array .int
  | 4 => .array .int
  | 5 => .int
  | 6 => .array .int
  | 7 => .int
  | 8 => .int
  | _ => .int
abbrev wsX20 : List Cond := u_ws RX2 TX2 10
theorem nmX2 : ∀ a, a < 10 → ∀ b, b < 10 → a ≠ b → (TX2 a).2.1 ≠ (TX2 b).2.1 := by decide +kernel
theorem tyX2_ok : ∀ k, k < 10 → parseFieldDescriptor (TX2 k).2.2.1 = some (tyX2 k) := by decide +kernel
abbrev cX2_init : ByteArray := prog_4_method_1_code
def yX2_init : MethodName := ⟨RX2, "<init>", "()V"⟩
abbrev cX2_append : ByteArray := prog_4_method_2_code
def yX2_append : MethodName := ⟨RX2, "append", "(IIII)I"⟩
abbrev cX2_endWithJump : ByteArray := prog_4_method_3_code
def yX2_endWithJump : MethodName := ⟨RX2, "endWithJump", "(I)V"⟩
abbrev cX2_endWithBranch : ByteArray := prog_4_method_4_code
def yX2_endWithBranch : MethodName := ⟨RX2, "endWithBranch", "(IIIII)V"⟩
abbrev cX2_makeEmpty : ByteArray := prog_4_method_5_code
def yX2_makeEmpty : MethodName := ⟨RX2, "makeEmpty", "()V"⟩
abbrev cX2_applyTo : ByteArray := prog_4_method_6_code
def yX2_applyTo : MethodName := ⟨RX2, "applyTo", "(LRangePropagator$State;)V"⟩
abbrev cX2_refineForEdge : ByteArray := prog_4_method_7_code
def yX2_refineForEdge : MethodName := ⟨RX2, "refineForEdge", "(LRangePropagator$State;I)V"⟩
def RX3 : String := "RangePropagator$Execution"
def TX3 : u_T := fun k => match k with
  | 0 => ("RangePropagator$Execution", "values", "[I", true)
  | 1 => ("RangePropagator$Execution", "stepBlocks", "[I", true)
  | 2 => ("RangePropagator$Execution", "stepValues", "[I", true)
  | 3 => ("RangePropagator$Execution", "stepCount", "I", false)
  | _ => ("RangePropagator$Execution", "\x72", "J", false)
def tyX3 : Nat → FieldType := fun k => match k with
  | 0 => .array .int
  | 1 => .array .int
  | 2 => .array .int
  | 3 => .int
  | _ => .long
abbrev wsX30 : List Cond := u_ws RX3 TX3 5
theorem nmX3 : ∀ a, a < 5 → ∀ b, b < 5 → a ≠ b → (TX3 a).2.1 ≠ (TX3 b).2.1 := by decide +kernel
theorem tyX3_ok : ∀ k, k < 5 → parseFieldDescriptor (TX3 k).2.2.1 = some (tyX3 k) := by decide +kernel
abbrev cX3_init : ByteArray := prog_5_method_1_code
def yX3_init : MethodName := ⟨RX3, "<init>", "()V"⟩
abbrev cX3_execute : ByteArray := prog_5_method_2_code
def yX3_execute : MethodName := ⟨RX3, "execute", "(LRangePropagator$Program;JI)V"⟩
abbrev cX3_noteStep : ByteArray := prog_5_method_3_code
def yX3_noteStep : MethodName := ⟨RX3, "noteStep", "(II)V"⟩
abbrev cX3_perform : ByteArray := prog_5_method_4_code
def yX3_perform : MethodName := ⟨RX3, "perform", "(LRangePropagator$Block;)V"⟩
abbrev cX3_outcomeOf : ByteArray := prog_5_method_5_code
def yX3_outcomeOf : MethodName := ⟨RX3, "outcomeOf", "(III)I"⟩
abbrev cX3_follower : ByteArray := prog_5_method_6_code
def yX3_follower : MethodName := ⟨RX3, "followe\x72", "(LRangePropagator$Block;)I"⟩
abbrev cX3_choose : ByteArray := prog_5_method_7_code
def yX3_choose : MethodName := ⟨RX3, "choose", "(II)I"⟩
def RX4 : String := "RangePropagator$Flow"
def TX4 : u_T := fun k => match k with
  | 0 => ("RangePropagator$Flow", "entryState", "LRangePropagator$State;", true)
  | 1 => ("RangePropagator$Flow", "exitState", "LRangePropagator$State;", true)
  | 2 => ("RangePropagator$Flow", "edgeStates", "[LRangePropagator$State;", true)
  | _ => ("RangePropagator$Flow", "visitCount", "I", false)
def tyX4 : Nat → FieldType := fun k => match k with
  | 0 => .object "RangePropagator$State"
  | 1 => .object "RangePropagator$State"
  | 2 => .array (.object "RangePropagator$State")
  | _ => .int
abbrev wsX40 : List Cond := u_ws RX4 TX4 4
theorem nmX4 : ∀ a, a < 4 → ∀ b, b < 4 → a ≠ b → (TX4 a).2.1 ≠ (TX4 b).2.1 := by decide +kernel
theorem tyX4_ok : ∀ k, k < 4 → parseFieldDescriptor (TX4 k).2.2.1 = some (tyX4 k) := by decide +kernel
abbrev cX4_init : ByteArray := prog_6_method_1_code
def yX4_init : MethodName := ⟨RX4, "<init>", "()V"⟩
abbrev cX4_makeNone : ByteArray := prog_6_method_2_code
def yX4_makeNone : MethodName := ⟨RX4, "makeNone", "()V"⟩
abbrev cX4_makeAnew : ByteArray := prog_6_method_3_code
def yX4_makeAnew : MethodName := ⟨RX4, "makeAnew", "(LRangePropagator$Block;)V"⟩
abbrev cX4_countDeadEdges : ByteArray := prog_6_method_4_code
def yX4_countDeadEdges : MethodName := ⟨RX4, "countDeadEdges", "(I)I"⟩
def RX5 : String := "RangePropagator$Program"
def TX5 : u_T := fun k => match k with
  | 0 => ("RangePropagator$Program", "blocks", "[LRangePropagator$Block;", true)
  | 1 => ("RangePropagator$Program", "initial", "LRangePropagator$State;", true)
  | _ => ("RangePropagator$Program", "count", "I", false)
def tyX5 : Nat → FieldType := fun k => match k with
  | 0 => .array (.object "RangePropagator$Block")
  | 1 => .object "RangePropagator$State"
  | _ => .int
abbrev wsX50 : List Cond := u_ws RX5 TX5 3
theorem nmX5 : ∀ a, a < 3 → ∀ b, b < 3 → a ≠ b → (TX5 a).2.1 ≠ (TX5 b).2.1 := by decide +kernel
theorem tyX5_ok : ∀ k, k < 3 → parseFieldDescriptor (TX5 k).2.2.1 = some (tyX5 k) := by decide +kernel
abbrev cX5_init : ByteArray := prog_7_method_1_code
def yX5_init : MethodName := ⟨RX5, "<init>", "()V"⟩
def RX6 : String := "RangePropagator$Settings"
def TX6 : u_T := fun k => match k with
  | 0 => ("RangePropagator$Settings", "delay", "I", false)
  | 1 => ("RangePropagator$Settings", "narrowings", "I", false)
  | 2 => ("RangePropagator$Settings", "thresholdCount", "I", false)
  | _ => ("RangePropagator$Settings", "thresholds", "[I", true)
def tyX6 : Nat → FieldType := fun k => match k with
  | 0 => .int
  | 1 => .int
  | 2 => .int
  | _ => .array .int
abbrev wsX60 : List Cond := u_ws RX6 TX6 4
theorem nmX6 : ∀ a, a < 4 → ∀ b, b < 4 → a ≠ b → (TX6 a).2.1 ≠ (TX6 b).2.1 := by decide +kernel
theorem tyX6_ok : ∀ k, k < 4 → parseFieldDescriptor (TX6 k).2.2.1 = some (tyX6 k) := by decide +kernel
abbrev cX6_init : ByteArray := prog_8_method_1_code
def yX6_init : MethodName := ⟨RX6, "<init>", "()V"⟩
abbrev cX6_keepThreshold : ByteArray := prog_8_method_2_code
def yX6_keepThreshold : MethodName := ⟨RX6, "keepThreshold", "(I)V"⟩
abbrev cX6_widen : ByteArray := prog_8_method_3_code
def yX6_widen : MethodName := ⟨RX6, "widen", "(LRangePropagator$State;LRangePropagator$State;)V"⟩
abbrev cX6_greatestUpTo : ByteArray := prog_8_method_4_code
def yX6_greatestUpTo : MethodName := ⟨RX6, "greatestUpTo", "(I)I"⟩
abbrev cX6_smallestFrom : ByteArray := prog_8_method_5_code
def yX6_smallestFrom : MethodName := ⟨RX6, "smallestFrom", "(I)I"⟩
def RX7 : String := "RangePropagator$State"
def TX7 : u_T := fun k => match k with
  | 0 => ("RangePropagator$State", "isNone", "Z", false)
  | 1 => ("RangePropagator$State", "low", "[I", true)
  | _ => ("RangePropagator$State", "high", "[I", true)
def tyX7 : Nat → FieldType := fun k => match k with
  | 0 => .boolean
  | 1 => .array .int
  | _ => .array .int
abbrev wsX70 : List Cond := u_ws RX7 TX7 3
theorem nmX7 : ∀ a, a < 3 → ∀ b, b < 3 → a ≠ b → (TX7 a).2.1 ≠ (TX7 b).2.1 := by decide +kernel
theorem tyX7_ok : ∀ k, k < 3 → parseFieldDescriptor (TX7 k).2.2.1 = some (tyX7 k) := by decide +kernel
abbrev cX7_init : ByteArray := prog_9_method_1_code
def yX7_init : MethodName := ⟨RX7, "<init>", "()V"⟩
abbrev cX7_become : ByteArray := prog_9_method_2_code
def yX7_become : MethodName := ⟨RX7, "become", "(LRangePropagator$State;)V"⟩
abbrev cX7_differsFrom : ByteArray := prog_9_method_3_code
def yX7_differsFrom : MethodName := ⟨RX7, "differsFrom", "(LRangePropagator$State;)Z"⟩
abbrev cX7_join : ByteArray := prog_9_method_4_code
def yX7_join : MethodName := ⟨RX7, "join", "(LRangePropagator$State;)V"⟩
abbrev cX7_narrowTo : ByteArray := prog_9_method_5_code
def yX7_narrowTo : MethodName := ⟨RX7, "narrowTo", "(LRangePropagator$State;)V"⟩
abbrev cX7_countConstants : ByteArray := prog_9_method_6_code
def yX7_countConstants : MethodName := ⟨RX7, "countConstants", "()I"⟩
abbrev cX7_isConstant : ByteArray := prog_9_method_7_code
def yX7_isConstant : MethodName := ⟨RX7, "isConstant", "(I)Z"⟩
abbrev cX7_setRange : ByteArray := prog_9_method_8_code
def yX7_setRange : MethodName := ⟨RX7, "setRange", "(III)V"⟩
abbrev cX7_assign : ByteArray := prog_9_method_9_code
def yX7_assign : MethodName := ⟨RX7, "assign", "(IIII)V"⟩
abbrev cX7_refine : ByteArray := prog_9_method_10_code
def yX7_refine : MethodName := ⟨RX7, "refine", "(III)V"⟩
abbrev cX7_keepOrdered : ByteArray := prog_9_method_11_code
def yX7_keepOrdered : MethodName := ⟨RX7, "keepOrdered", "(III)V"⟩
abbrev cX7_keepEqual : ByteArray := prog_9_method_12_code
def yX7_keepEqual : MethodName := ⟨RX7, "keepEqual", "(II)V"⟩
abbrev cX7_keepUnequal : ByteArray := prog_9_method_13_code
def yX7_keepUnequal : MethodName := ⟨RX7, "keepUnequal", "(II)V"⟩
abbrev cX7_cutOff : ByteArray := prog_9_method_14_code
def yX7_cutOff : MethodName := ⟨RX7, "cutOff", "(II)V"⟩
def RX8 : String := "RangePropagato\x72"
def TX8 : u_T := fun k => match k with
  | 0 => ("RangePropagato\x72", "program", "LRangePropagator$Program;", true)
  | 1 => ("RangePropagato\x72", "settings", "LRangePropagator$Settings;", true)
  | 2 => ("RangePropagato\x72", "analysis", "LRangePropagator$Analysis;", true)
  | 3 => ("RangePropagato\x72", "execution", "LRangePropagator$Execution;", true)
  | _ => ("RangePropagato\x72", "analysisStands", "Z", false)
def tyX8 : Nat → FieldType := fun k => match k with
  | 0 => .object "RangePropagator$Program"
  | 1 => .object "RangePropagator$Settings"
  | 2 => .object "RangePropagator$Analysis"
  | 3 => .object "RangePropagator$Execution"
  | _ => .boolean
abbrev wsX80 : List Cond := u_ws RX8 TX8 5
theorem nmX8 : ∀ a, a < 5 → ∀ b, b < 5 → a ≠ b → (TX8 a).2.1 ≠ (TX8 b).2.1 := by decide +kernel
theorem tyX8_ok : ∀ k, k < 5 → parseFieldDescriptor (TX8 k).2.2.1 = some (tyX8 k) := by decide +kernel
abbrev cX8_init : ByteArray := prog_1_method_1_code
def yX8_init : MethodName := ⟨RX8, "<init>", "()V"⟩
abbrev cX8_addBlock : ByteArray := prog_1_method_2_code
def yX8_addBlock : MethodName := ⟨RX8, "addBlock", "()I"⟩
abbrev cX8_setInitial : ByteArray := prog_1_method_3_code
def yX8_setInitial : MethodName := ⟨RX8, "setInitial", "(III)Z"⟩
abbrev cX8_input : ByteArray := prog_1_method_4_code
def yX8_input : MethodName := ⟨RX8, "input", "(IIII)I"⟩
abbrev cX8_compute : ByteArray := prog_1_method_5_code
def yX8_compute : MethodName := ⟨RX8, "compute", "(IIIII)I"⟩
abbrev cX8_jump : ByteArray := prog_1_method_6_code
def yX8_jump : MethodName := ⟨RX8, "jump", "(II)I"⟩
abbrev cX8_branch : ByteArray := prog_1_method_7_code
def yX8_branch : MethodName := ⟨RX8, "branch", "(IIIIII)I"⟩
abbrev cX8_clear : ByteArray := prog_1_method_8_code
def yX8_clear : MethodName := ⟨RX8, "clea\x72", "(I)I"⟩
abbrev cX8_blockCount : ByteArray := prog_1_method_9_code
def yX8_blockCount : MethodName := ⟨RX8, "blockCount", "()I"⟩
abbrev cX8_setEffort : ByteArray := prog_1_method_10_code
def yX8_setEffort : MethodName := ⟨RX8, "setEffort", "(II)Z"⟩
abbrev cX8_addThreshold : ByteArray := prog_1_method_11_code
def yX8_addThreshold : MethodName := ⟨RX8, "addThreshold", "(I)I"⟩
abbrev cX8_analyze : ByteArray := prog_1_method_12_code
def yX8_analyze : MethodName := ⟨RX8, "analyze", "()I"⟩
abbrev cX8_isAnalyzed : ByteArray := prog_1_method_13_code
def yX8_isAnalyzed : MethodName := ⟨RX8, "isAnalyzed", "()Z"⟩
abbrev cX8_isReachable : ByteArray := prog_1_method_14_code
def yX8_isReachable : MethodName := ⟨RX8, "isReachable", "(I)Z"⟩
abbrev cX8_entry : ByteArray := prog_1_method_15_code
def yX8_entry : MethodName := ⟨RX8, "entry", "(IIZ)I"⟩
abbrev cX8_exit : ByteArray := prog_1_method_16_code
def yX8_exit : MethodName := ⟨RX8, "exit", "(IIZ)I"⟩
abbrev cX8_isDead : ByteArray := prog_1_method_17_code
def yX8_isDead : MethodName := ⟨RX8, "isDead", "(II)Z"⟩
abbrev cX8_deadEdges : ByteArray := prog_1_method_18_code
def yX8_deadEdges : MethodName := ⟨RX8, "deadEdges", "()I"⟩
abbrev cX8_constants : ByteArray := prog_1_method_19_code
def yX8_constants : MethodName := ⟨RX8, "constants", "(I)I"⟩
abbrev cX8_visits : ByteArray := prog_1_method_20_code
def yX8_visits : MethodName := ⟨RX8, "visits", "(I)I"⟩
abbrev cX8_run : ByteArray := prog_1_method_21_code
def yX8_run : MethodName := ⟨RX8, "run", "(JI)I"⟩
abbrev cX8_enteredBlock : ByteArray := prog_1_method_22_code
def yX8_enteredBlock : MethodName := ⟨RX8, "enteredBlock", "(I)I"⟩
abbrev cX8_enteredWith : ByteArray := prog_1_method_23_code
def yX8_enteredWith : MethodName := ⟨RX8, "enteredWith", "(II)I"⟩
abbrev cX8_result : ByteArray := prog_1_method_24_code
def yX8_result : MethodName := ⟨RX8, "result", "(I)I"⟩
abbrev cX8_digest : ByteArray := prog_1_method_25_code
def yX8_digest : MethodName := ⟨RX8, "digest", "()J"⟩
abbrev cX8_digestProgram : ByteArray := prog_1_method_26_code
def yX8_digestProgram : MethodName := ⟨RX8, "digestProgram", "(J)J"⟩
abbrev cX8_digestAnalysis : ByteArray := prog_1_method_27_code
def yX8_digestAnalysis : MethodName := ⟨RX8, "digestAnalysis", "(J)J"⟩
abbrev cX8_digestRanges : ByteArray := prog_1_method_28_code
def yX8_digestRanges : MethodName := ⟨RX8, "digestRanges", "(JLRangePropagator$State;)J"⟩
abbrev cX8_endOfRange : ByteArray := prog_1_method_29_code
def yX8_endOfRange : MethodName := ⟨RX8, "endOfRange", "(LRangePropagator$State;IZ)I"⟩
abbrev cX8_requireBlock : ByteArray := prog_1_method_30_code
def yX8_requireBlock : MethodName := ⟨RX8, "requireBlock", "(I)V"⟩
abbrev cX8_requireRoom : ByteArray := prog_1_method_31_code
def yX8_requireRoom : MethodName := ⟨RX8, "requireRoom", "(I)V"⟩
abbrev cX8_requireStep : ByteArray := prog_1_method_32_code
def yX8_requireStep : MethodName := ⟨RX8, "requireStep", "(I)V"⟩
abbrev cX8_requireAnalysis : ByteArray := prog_1_method_33_code
def yX8_requireAnalysis : MethodName := ⟨RX8, "requireAnalysis", "()V"⟩
abbrev cX8_requireVariable : ByteArray := prog_1_method_34_code
def yX8_requireVariable : MethodName := ⟨RX8, "requireVariable", "(I)V"⟩
abbrev cX8_requireRange : ByteArray := prog_1_method_35_code
def yX8_requireRange : MethodName := ⟨RX8, "requireRange", "(II)V"⟩
def RX9 : String := "RangePropagatorModel"
def TX9 : u_T := fun k => match k with
  | 0 => ("RangePropagatorModel", "thrown", "I", false)
  | 1 => ("RangePropagatorModel", "blocks", "I", false)
  | 2 => ("RangePropagatorModel", "sizes", "[I", true)
  | 3 => ("RangePropagatorModel", "statements", "[I", true)
  | 4 => ("RangePropagatorModel", "edges", "[I", true)
  | 5 => ("RangePropagatorModel", "ups", "[I", true)
  | 6 => ("RangePropagatorModel", "downs", "[I", true)
  | 7 => ("RangePropagatorModel", "xs", "[I", true)
  | 8 => ("RangePropagatorModel", "ys", "[I", true)
  | 9 => ("RangePropagatorModel", "relations", "[I", true)
  | 10 => ("RangePropagatorModel", "firstLows", "[I", true)
  | 11 => ("RangePropagatorModel", "firstHighs", "[I", true)
  | 12 => ("RangePropagatorModel", "delay", "I", false)
  | 13 => ("RangePropagatorModel", "narrowings", "I", false)
  | 14 => ("RangePropagatorModel", "thresholds", "I", false)
  | 15 => ("RangePropagatorModel", "threshold", "[I", true)
  | 16 => ("RangePropagatorModel", "isMade", "Z", false)
  | 17 => ("RangePropagatorModel", "isThere", "[Z", true)
  | 18 => ("RangePropagatorModel", "lows", "[I", true)
  | 19 => ("RangePropagatorModel", "highs", "[I", true)
  | 20 => ("RangePropagatorModel", "visits", "[I", true)
  | 21 => ("RangePropagatorModel", "low", "[I", true)
  | 22 => ("RangePropagatorModel", "high", "[I", true)
  | 23 => ("RangePropagatorModel", "hasJoin", "Z", false)
  | 24 => ("RangePropagatorModel", "joinLow", "[I", true)
  | 25 => ("RangePropagatorModel", "joinHigh", "[I", true)
  | 26 => ("RangePropagatorModel", "steps", "I", false)
  | 27 => ("RangePropagatorModel", "entered", "[I", true)
  | 28 => ("RangePropagatorModel", "enteredWith", "[I", true)
  | 29 => ("RangePropagatorModel", "results", "[I", true)
  | _ => ("RangePropagatorModel", "\x72", "J", false)
def tyX9 : Nat → FieldType := fun k => match k with
  | 0 => .int
  | 1 => .int
  | 2 => .array .int
  | 3 => .array .int
  | 4 => .array .int
  | 5 => .array .int
  | 6 => .array .int
  | 7 => .array .int
  | 8 => .array .int
  | 9 => .array .int
  | 10 => .array .int
  | 11 => .array .int
  | 12 => .int
  | 13 => .int
  | 14 => .int
  | 15 => .array .int
  | 16 => .boolean
  | 17 => .array .boolean
  | 18 => .array .int
  | 19 => .array .int
  | 20 => .array .int
  | 21 => .array .int
  | 22 => .array .int
  | 23 => .boolean
  | 24 => .array .int
  | 25 => .array .int
  | 26 => .int
  | 27 => .array .int
  | 28 => .array .int
  | 29 => .array .int
  | _ => .long
abbrev wsX90 : List Cond := u_ws RX9 TX9 31
theorem nmX9 : ∀ a, a < 31 → ∀ b, b < 31 → a ≠ b → (TX9 a).2.1 ≠ (TX9 b).2.1 := by decide +kernel
theorem tyX9_ok : ∀ k, k < 31 → parseFieldDescriptor (TX9 k).2.2.1 = some (tyX9 k) := by decide +kernel
abbrev cX9_init : ByteArray := prog_11_method_1_code
def yX9_init : MethodName := ⟨RX9, "<init>", "()V"⟩
abbrev cX9_thrown : ByteArray := prog_11_method_2_code
def yX9_thrown : MethodName := ⟨RX9, "thrown", "()I"⟩
abbrev cX9_fail : ByteArray := prog_11_method_3_code
def yX9_fail : MethodName := ⟨RX9, "fail", "(I)I"⟩
abbrev cX9_isBlock : ByteArray := prog_11_method_4_code
def yX9_isBlock : MethodName := ⟨RX9, "isBlock", "(I)Z"⟩
abbrev cX9_isVariable : ByteArray := prog_11_method_5_code
def yX9_isVariable : MethodName := ⟨RX9, "isVariable", "(I)Z"⟩
abbrev cX9_isRange : ByteArray := prog_11_method_6_code
def yX9_isRange : MethodName := ⟨RX9, "isRange", "(II)Z"⟩
abbrev cX9_addBlock : ByteArray := prog_11_method_7_code
def yX9_addBlock : MethodName := ⟨RX9, "addBlock", "()I"⟩
abbrev cX9_setInitial : ByteArray := prog_11_method_8_code
def yX9_setInitial : MethodName := ⟨RX9, "setInitial", "(III)Z"⟩
abbrev cX9_append : ByteArray := prog_11_method_9_code
def yX9_append : MethodName := ⟨RX9, "append", "(IIIII)I"⟩
abbrev cX9_input : ByteArray := prog_11_method_10_code
def yX9_input : MethodName := ⟨RX9, "input", "(IIII)I"⟩
abbrev cX9_compute : ByteArray := prog_11_method_11_code
def yX9_compute : MethodName := ⟨RX9, "compute", "(IIIII)I"⟩
abbrev cX9_end : ByteArray := prog_11_method_12_code
def yX9_end : MethodName := ⟨RX9, "end", "(IIII)I"⟩
abbrev cX9_jump : ByteArray := prog_11_method_13_code
def yX9_jump : MethodName := ⟨RX9, "jump", "(II)I"⟩
abbrev cX9_branch : ByteArray := prog_11_method_14_code
def yX9_branch : MethodName := ⟨RX9, "branch", "(IIIIII)I"⟩
abbrev cX9_clear : ByteArray := prog_11_method_15_code
def yX9_clear : MethodName := ⟨RX9, "clea\x72", "(I)I"⟩
abbrev cX9_blockCount : ByteArray := prog_11_method_16_code
def yX9_blockCount : MethodName := ⟨RX9, "blockCount", "()I"⟩
abbrev cX9_setEffort : ByteArray := prog_11_method_17_code
def yX9_setEffort : MethodName := ⟨RX9, "setEffort", "(II)Z"⟩
abbrev cX9_addThreshold : ByteArray := prog_11_method_18_code
def yX9_addThreshold : MethodName := ⟨RX9, "addThreshold", "(I)I"⟩
abbrev cX9_limited : ByteArray := prog_11_method_19_code
def yX9_limited : MethodName := ⟨RX9, "limited", "(J)I"⟩
abbrev cX9_set : ByteArray := prog_11_method_20_code
def yX9_set : MethodName := ⟨RX9, "set", "(IJJ)V"⟩
abbrev cX9_product : ByteArray := prog_11_method_21_code
def yX9_product : MethodName := ⟨RX9, "product", "(III)V"⟩
abbrev cX9_apply : ByteArray := prog_11_method_22_code
def yX9_apply : MethodName := ⟨RX9, "apply", "(I)V"⟩
abbrev cX9_leave : ByteArray := prog_11_method_23_code
def yX9_leave : MethodName := ⟨RX9, "leave", "(I)V"⟩
abbrev cX9_opposite : ByteArray := prog_11_method_24_code
def yX9_opposite : MethodName := ⟨RX9, "opposite", "(I)I"⟩
abbrev cX9_refine : ByteArray := prog_11_method_25_code
def yX9_refine : MethodName := ⟨RX9, "refine", "(III)V"⟩
abbrev cX9_reach : ByteArray := prog_11_method_26_code
def yX9_reach : MethodName := ⟨RX9, "reach", "(II)Z"⟩
abbrev cX9_join : ByteArray := prog_11_method_27_code
def yX9_join : MethodName := ⟨RX9, "join", "()V"⟩
abbrev cX9_gather : ByteArray := prog_11_method_28_code
def yX9_gather : MethodName := ⟨RX9, "gathe\x72", "(I)V"⟩
abbrev cX9_below : ByteArray := prog_11_method_29_code
def yX9_below : MethodName := ⟨RX9, "below", "(I)I"⟩
abbrev cX9_above : ByteArray := prog_11_method_30_code
def yX9_above : MethodName := ⟨RX9, "above", "(I)I"⟩
abbrev cX9_look : ByteArray := prog_11_method_31_code
def yX9_look : MethodName := ⟨RX9, "look", "(I)Z"⟩
abbrev cX9_narrow : ByteArray := prog_11_method_32_code
def yX9_narrow : MethodName := ⟨RX9, "narrow", "(I)V"⟩
abbrev cX9_analyze : ByteArray := prog_11_method_33_code
def yX9_analyze : MethodName := ⟨RX9, "analyze", "()I"⟩
abbrev cX9_isAnalyzed : ByteArray := prog_11_method_34_code
def yX9_isAnalyzed : MethodName := ⟨RX9, "isAnalyzed", "()Z"⟩
abbrev cX9_isReachable : ByteArray := prog_11_method_35_code
def yX9_isReachable : MethodName := ⟨RX9, "isReachable", "(I)Z"⟩
abbrev cX9_asks : ByteArray := prog_11_method_36_code
def yX9_asks : MethodName := ⟨RX9, "asks", "(II)Z"⟩
abbrev cX9_entry : ByteArray := prog_11_method_37_code
def yX9_entry : MethodName := ⟨RX9, "entry", "(IIZ)I"⟩
abbrev cX9_exit : ByteArray := prog_11_method_38_code
def yX9_exit : MethodName := ⟨RX9, "exit", "(IIZ)I"⟩
abbrev cX9_isDead : ByteArray := prog_11_method_39_code
def yX9_isDead : MethodName := ⟨RX9, "isDead", "(II)Z"⟩
abbrev cX9_deadEdges : ByteArray := prog_11_method_40_code
def yX9_deadEdges : MethodName := ⟨RX9, "deadEdges", "()I"⟩
abbrev cX9_constants : ByteArray := prog_11_method_41_code
def yX9_constants : MethodName := ⟨RX9, "constants", "(I)I"⟩
abbrev cX9_visits : ByteArray := prog_11_method_42_code
def yX9_visits : MethodName := ⟨RX9, "visits", "(I)I"⟩
abbrev cX9_draw : ByteArray := prog_11_method_43_code
def yX9_draw : MethodName := ⟨RX9, "draw", "(II)I"⟩
abbrev cX9_valueOf : ByteArray := prog_11_method_44_code
def yX9_valueOf : MethodName := ⟨RX9, "valueOf", "(I)I"⟩
abbrev cX9_isTrue : ByteArray := prog_11_method_45_code
def yX9_isTrue : MethodName := ⟨RX9, "isTrue", "(I)Z"⟩
abbrev cX9_run : ByteArray := prog_11_method_46_code
def yX9_run : MethodName := ⟨RX9, "run", "(JI)I"⟩
abbrev cX9_enteredBlock : ByteArray := prog_11_method_47_code
def yX9_enteredBlock : MethodName := ⟨RX9, "enteredBlock", "(I)I"⟩
abbrev cX9_enteredWith : ByteArray := prog_11_method_48_code
def yX9_enteredWith : MethodName := ⟨RX9, "enteredWith", "(II)I"⟩
abbrev cX9_result : ByteArray := prog_11_method_49_code
def yX9_result : MethodName := ⟨RX9, "result", "(I)I"⟩
abbrev cX9_digest : ByteArray := prog_11_method_50_code
def yX9_digest : MethodName := ⟨RX9, "digest", "()J"⟩
def RJx145de : String := "java/io/Serializable"
def TJx145de : u_T := fun k => match k with
  | _ => ("", "", "", false)
def tyJx145de : Nat → FieldType := fun k => match k with
  | _ => .int
abbrev wsJx145de0 : List Cond := u_ws RJx145de TJx145de 0
theorem nmJx145de : ∀ a, a < 0 → ∀ b, b < 0 → a ≠ b → (TJx145de a).2.1 ≠ (TJx145de b).2.1 := by decide +kernel
theorem tyJx145de_ok : ∀ k, k < 0 → parseFieldDescriptor (TJx145de k).2.2.1 = some (tyJx145de k) := by decide +kernel
def RJ9 : String := "java/lang/Math"
def TJ9 : u_T := fun k => match k with
  | _ => ("", "", "", false)
def tyJ9 : Nat → FieldType := fun k => match k with
  | _ => .int
abbrev wsJ90 : List Cond := u_ws RJ9 TJ9 0
theorem nmJ9 : ∀ a, a < 0 → ∀ b, b < 0 → a ≠ b → (TJ9 a).2.1 ≠ (TJ9 b).2.1 := by decide +kernel
theorem tyJ9_ok : ∀ k, k < 0 → parseFieldDescriptor (TJ9 k).2.2.1 = some (tyJ9 k) := by decide +kernel
abbrev cJ9_floorMod_f86c9 : ByteArray := prog_17_method_52_code
def yJ9_floorMod_f86c9 : MethodName := ⟨RJ9, "floorMod", "(JJ)J"⟩
abbrev cJ9_max_7cf53 : ByteArray := prog_17_method_65_code
def yJ9_max_7cf53 : MethodName := ⟨RJ9, "max", "(II)I"⟩
abbrev cJ9_max_f86c9 : ByteArray := prog_17_method_66_code
def yJ9_max_f86c9 : MethodName := ⟨RJ9, "max", "(JJ)J"⟩
abbrev cJ9_min_7cf53 : ByteArray := prog_17_method_69_code
def yJ9_min_7cf53 : MethodName := ⟨RJ9, "min", "(II)I"⟩
abbrev cJ9_min_f86c9 : ByteArray := prog_17_method_70_code
def yJ9_min_f86c9 : MethodName := ⟨RJ9, "min", "(JJ)J"⟩
def RJ0 : String := "java/lang/String"
def TJ0 : u_T := fun k => match k with
  | _ => ("", "", "", false)
def tyJ0 : Nat → FieldType := fun k => match k with
  | _ => .int
abbrev wsJ00 : List Cond := u_ws RJ0 TJ0 0
theorem nmJ0 : ∀ a, a < 0 → ∀ b, b < 0 → a ≠ b → (TJ0 a).2.1 ≠ (TJ0 b).2.1 := by decide +kernel
theorem tyJ0_ok : ∀ k, k < 0 → parseFieldDescriptor (TJ0 k).2.2.1 = some (tyJ0 k) := by decide +kernel
def RJ10 : String := "java/lang/System"
def TJ10 : u_T := fun k => match k with
  | _ => ("", "", "", false)
def tyJ10 : Nat → FieldType := fun k => match k with
  | _ => .int
abbrev wsJ100 : List Cond := u_ws RJ10 TJ10 0
theorem nmJ10 : ∀ a, a < 0 → ∀ b, b < 0 → a ≠ b → (TJ10 a).2.1 ≠ (TJ10 b).2.1 := by decide +kernel
theorem tyJ10_ok : ∀ k, k < 0 → parseFieldDescriptor (TJ10 k).2.2.1 = some (tyJ10 k) := by decide +kernel
def RL : String := "RangePropagatorLaw"
abbrev cL_addBlock : ByteArray := method_3_code
def yL_addBlock : MethodName := ⟨RL, "addBlock", "(LRangePropagator;[J)I"⟩
abbrev cL_setInitial : ByteArray := method_4_code
def yL_setInitial : MethodName := ⟨RL, "setInitial", "(LRangePropagator;III[J)I"⟩
abbrev cL_input : ByteArray := method_5_code
def yL_input : MethodName := ⟨RL, "input", "(LRangePropagator;IIII[J)I"⟩
abbrev cL_compute : ByteArray := method_6_code
def yL_compute : MethodName := ⟨RL, "compute", "(LRangePropagator;IIIII[J)I"⟩
abbrev cL_jump : ByteArray := method_7_code
def yL_jump : MethodName := ⟨RL, "jump", "(LRangePropagator;II[J)I"⟩
abbrev cL_branch : ByteArray := method_8_code
def yL_branch : MethodName := ⟨RL, "branch", "(LRangePropagator;IIIIII[J)I"⟩
abbrev cL_clear : ByteArray := method_9_code
def yL_clear : MethodName := ⟨RL, "clea\x72", "(LRangePropagator;I[J)I"⟩
abbrev cL_setEffort : ByteArray := method_10_code
def yL_setEffort : MethodName := ⟨RL, "setEffort", "(LRangePropagator;II[J)I"⟩
abbrev cL_addThreshold : ByteArray := method_11_code
def yL_addThreshold : MethodName := ⟨RL, "addThreshold", "(LRangePropagator;I[J)I"⟩
abbrev cL_isReachable : ByteArray := method_12_code
def yL_isReachable : MethodName := ⟨RL, "isReachable", "(LRangePropagator;I[J)I"⟩
abbrev cL_entry : ByteArray := method_13_code
def yL_entry : MethodName := ⟨RL, "entry", "(LRangePropagator;IIZ[J)I"⟩
abbrev cL_exit : ByteArray := method_14_code
def yL_exit : MethodName := ⟨RL, "exit", "(LRangePropagator;IIZ[J)I"⟩
abbrev cL_isDead : ByteArray := method_15_code
def yL_isDead : MethodName := ⟨RL, "isDead", "(LRangePropagator;II[J)I"⟩
abbrev cL_deadEdges : ByteArray := method_16_code
def yL_deadEdges : MethodName := ⟨RL, "deadEdges", "(LRangePropagator;[J)I"⟩
abbrev cL_constants : ByteArray := method_17_code
def yL_constants : MethodName := ⟨RL, "constants", "(LRangePropagator;I[J)I"⟩
abbrev cL_visits : ByteArray := method_18_code
def yL_visits : MethodName := ⟨RL, "visits", "(LRangePropagator;I[J)I"⟩
abbrev cL_run : ByteArray := method_19_code
def yL_run : MethodName := ⟨RL, "run", "(LRangePropagator;JI[J)I"⟩
abbrev cL_enteredBlock : ByteArray := method_20_code
def yL_enteredBlock : MethodName := ⟨RL, "enteredBlock", "(LRangePropagator;I[J)I"⟩
abbrev cL_enteredWith : ByteArray := method_21_code
def yL_enteredWith : MethodName := ⟨RL, "enteredWith", "(LRangePropagator;II[J)I"⟩
abbrev cL_result : ByteArray := method_22_code
def yL_result : MethodName := ⟨RL, "result", "(LRangePropagator;I[J)I"⟩
abbrev cL_law : ByteArray := code
def yL_law : MethodName := ⟨RL, "law", "([I)Z"⟩
def wsX7_init : List Cond := .code yX7_init cX7_init 1 none :: ([.methodLink RX7 3 objectInit, .instanceMethod objectInit, .code objectInit ⟨#[0xb1]⟩ 1 none, .fieldLink RX7 9 "RangePropagator$State" "isNone" "Z", .arrayClass .int, .fieldLink RX7 15 "RangePropagator$State" "low" "[I", .fieldLink RX7 19 "RangePropagator$State" "high" "[I"] ++ wsX70)
def wsX4_init : List Cond := .code yX4_init cX4_init 2 none :: ([.methodLink RX4 3 objectInit, .instanceMethod objectInit, .code objectInit ⟨#[0xb1]⟩ 1 none, .classLink RX4 9 RX7, .instantiable RX7 3, .initialized RX7, .fieldLink RX4 12 "RangePropagator$Flow" "entryState" "LRangePropagator$State;", .fieldLink RX4 18 "RangePropagator$Flow" "exitState" "LRangePropagator$State;", .fieldLink RX4 21 "RangePropagator$Flow" "edgeStates" "[LRangePropagator$State;", .fieldLink RX4 25 "RangePropagator$Flow" "visitCount" "I", .instanceMethod yX7_init, .code yX7_init cX7_init 1 none, .methodLink RX7 3 objectInit, .fieldLink RX7 9 "RangePropagator$State" "isNone" "Z", .arrayClass .int, .fieldLink RX7 15 "RangePropagator$State" "low" "[I", .fieldLink RX7 19 "RangePropagator$State" "high" "[I"] ++ wsX70 ++ wsX40)
def wsX0_init_r1 : List Cond := [Cond.methodLink RX0 3 objectInit, Cond.instanceMethod objectInit, Cond.code objectInit ⟨#[0xb1]⟩ 1 none, Cond.classLink RX0 9 RX4, Cond.fieldLink RX0 11 "RangePropagator$Analysis" "flows" "[LRangePropagator$Flow;", Cond.classLink RX0 17 RX7, Cond.instantiable RX7 3, Cond.initialized RX7, Cond.fieldLink RX0 20 "RangePropagator$Analysis" "incoming" "LRangePropagator$State;", Cond.fieldLink RX0 24 "RangePropagator$Analysis" "joined" "LRangePropagator$State;", Cond.instantiable RX4 4, Cond.initialized RX4, Cond.instanceMethod yX7_init, Cond.code yX7_init cX7_init 1 none, Cond.methodLink RX7 3 objectInit, Cond.fieldLink RX7 9 "RangePropagator$State" "isNone" "Z", Cond.arrayClass .int, Cond.fieldLink RX7 15 "RangePropagator$State" "low" "[I", Cond.fieldLink RX7 19 "RangePropagator$State" "high" "[I", Cond.methodLink RX0 27 yX4_init, Cond.instanceMethod yX4_init, Cond.code yX4_init cX4_init 2 none, Cond.methodLink RX4 3 objectInit, Cond.classLink RX4 9 RX7]
def wsX0_init_r2 : List Cond := [Cond.fieldLink RX4 12 "RangePropagator$Flow" "entryState" "LRangePropagator$State;", Cond.fieldLink RX4 18 "RangePropagator$Flow" "exitState" "LRangePropagator$State;", Cond.fieldLink RX4 21 "RangePropagator$Flow" "edgeStates" "[LRangePropagator$State;", Cond.fieldLink RX4 25 "RangePropagator$Flow" "visitCount" "I"]
def wsX0_init : List Cond := .code yX0_init cX0_init 2 none :: ((wsX0_init_r1 ++ wsX0_init_r2) ++ wsX00 ++ wsX70 ++ wsX40)
def wsX4_makeNone : List Cond := .code yX4_makeNone cX4_makeNone 2 none :: ([.fieldLink RX4 25 "RangePropagator$Flow" "visitCount" "I", .fieldLink RX4 12 "RangePropagator$Flow" "entryState" "LRangePropagator$State;", .fieldLink RX4 29 "RangePropagator$State" "isNone" "Z", .fieldLink RX4 18 "RangePropagator$Flow" "exitState" "LRangePropagator$State;", .fieldLink RX4 21 "RangePropagator$Flow" "edgeStates" "[LRangePropagator$State;"] ++ wsX40 ++ wsX70)
def wsX0_forget : List Cond := .code yX0_forget cX0_forget 2 none :: ([.fieldLink RX0 11 "RangePropagator$Analysis" "flows" "[LRangePropagator$Flow;", .methodLink RX0 28 yX4_makeNone, .instanceMethod yX4_makeNone, .selects RX4 yX4_makeNone yX4_makeNone, .initialized RX4, .code yX4_makeNone cX4_makeNone 2 none, .fieldLink RX4 25 "RangePropagator$Flow" "visitCount" "I", .fieldLink RX4 12 "RangePropagator$Flow" "entryState" "LRangePropagator$State;", .fieldLink RX4 29 "RangePropagator$State" "isNone" "Z", .fieldLink RX4 18 "RangePropagator$Flow" "exitState" "LRangePropagator$State;", .fieldLink RX4 21 "RangePropagator$Flow" "edgeStates" "[LRangePropagator$State;"] ++ wsX00 ++ wsX40 ++ wsX70)
def wsX7_become : List Cond := .code yX7_become cX7_become 2 none :: ([.fieldLink RX7 9 "RangePropagator$State" "isNone" "Z", .fieldLink RX7 15 "RangePropagator$State" "low" "[I", .methodLink RX7 22 arraycopyName, .native arraycopyName, .static arraycopyName, .initialized "java/lang/System", .fieldLink RX7 19 "RangePropagator$State" "high" "[I"] ++ wsX70)
def wsX7_join : List Cond := .code yX7_join cX7_join 3 none :: ([.fieldLink RX7 9 "RangePropagator$State" "isNone" "Z", .fieldLink RX7 15 "RangePropagator$State" "low" "[I", .methodLink RX7 32 Lib.Math.min.name, .static Lib.Math.min.name, .initialized "java/lang/Math", .code Lib.Math.min.name Lib.Math.min.code 2 (some .int), .fieldLink RX7 19 "RangePropagator$State" "high" "[I", .methodLink RX7 38 Lib.Math.max.name, .static Lib.Math.max.name, .code Lib.Math.max.name Lib.Math.max.code 2 (some .int), .methodLink RX7 28 yX7_become, .instanceMethod yX7_become, .selects RX7 yX7_become yX7_become, .initialized RX7, .code yX7_become cX7_become 2 none, .methodLink RX7 22 arraycopyName, .native arraycopyName, .static arraycopyName, .initialized "java/lang/System"] ++ wsX70)
def wsX0_gatherIncoming_r1 : List Cond := [Cond.fieldLink RX0 20 "RangePropagator$Analysis" "incoming" "LRangePropagator$State;", Cond.fieldLink RX0 49 "RangePropagator$State" "isNone" "Z", Cond.fieldLink RX0 90 "RangePropagator$Program" "initial" "LRangePropagator$State;", Cond.fieldLink RX0 32 "RangePropagator$Program" "count" "I", Cond.fieldLink RX0 79 "RangePropagator$Program" "blocks" "[LRangePropagator$Block;", Cond.fieldLink RX0 93 "RangePropagator$Block" "edgeCount" "I", Cond.fieldLink RX0 98 "RangePropagator$Block" "followers" "[I", Cond.fieldLink RX0 11 "RangePropagator$Analysis" "flows" "[LRangePropagator$Flow;", Cond.fieldLink RX0 102 "RangePropagator$Flow" "edgeStates" "[LRangePropagator$State;", Cond.methodLink RX0 60 yX7_join, Cond.instanceMethod yX7_join, Cond.selects RX7 yX7_join yX7_join, Cond.initialized RX7, Cond.code yX7_join cX7_join 3 none, Cond.fieldLink RX7 9 "RangePropagator$State" "isNone" "Z", Cond.fieldLink RX7 15 "RangePropagator$State" "low" "[I", Cond.methodLink RX7 32 Lib.Math.min.name, Cond.static Lib.Math.min.name, Cond.initialized "java/lang/Math", Cond.code Lib.Math.min.name Lib.Math.min.code 2 (some .int), Cond.fieldLink RX7 19 "RangePropagator$State" "high" "[I", Cond.methodLink RX7 38 Lib.Math.max.name, Cond.static Lib.Math.max.name, Cond.code Lib.Math.max.name Lib.Math.max.code 2 (some .int)]
def wsX0_gatherIncoming_r2 : List Cond := [Cond.methodLink RX7 28 yX7_become, Cond.instanceMethod yX7_become, Cond.selects RX7 yX7_become yX7_become, Cond.code yX7_become cX7_become 2 none, Cond.methodLink RX7 22 arraycopyName, Cond.native arraycopyName, Cond.static arraycopyName, Cond.initialized "java/lang/System"]
def wsX0_gatherIncoming : List Cond := .code yX0_gatherIncoming cX0_gatherIncoming 6 none :: ((wsX0_gatherIncoming_r1 ++ wsX0_gatherIncoming_r2) ++ wsX00 ++ wsX70 ++ wsX50 ++ wsX20 ++ wsX40)
def wsX6_greatestUpTo : List Cond := .code yX6_greatestUpTo cX6_greatestUpTo 4 (some .int) :: ([.constant RX6 40 (-1000000000), .fieldLink RX6 18 "RangePropagator$Settings" "thresholdCount" "I", .fieldLink RX6 21 "RangePropagator$Settings" "thresholds" "[I"] ++ wsX60)
def wsX6_smallestFrom : List Cond := .code yX6_smallestFrom cX6_smallestFrom 4 (some .int) :: ([.constant RX6 41 (1000000000), .fieldLink RX6 18 "RangePropagator$Settings" "thresholdCount" "I", .fieldLink RX6 21 "RangePropagator$Settings" "thresholds" "[I"] ++ wsX60)
def wsX6_widen : List Cond := .code yX6_widen cX6_widen 4 none :: ([.fieldLink RX6 25 "RangePropagator$State" "low" "[I", .fieldLink RX6 34 "RangePropagator$State" "high" "[I", .methodLink RX6 30 yX6_greatestUpTo, .instanceMethod yX6_greatestUpTo, .selects RX6 yX6_greatestUpTo yX6_greatestUpTo, .initialized RX6, .code yX6_greatestUpTo cX6_greatestUpTo 4 (some .int), .constant RX6 40 (-1000000000), .fieldLink RX6 18 "RangePropagator$Settings" "thresholdCount" "I", .fieldLink RX6 21 "RangePropagator$Settings" "thresholds" "[I", .methodLink RX6 37 yX6_smallestFrom, .instanceMethod yX6_smallestFrom, .selects RX6 yX6_smallestFrom yX6_smallestFrom, .code yX6_smallestFrom cX6_smallestFrom 4 (some .int), .constant RX6 41 (1000000000)] ++ wsX70 ++ wsX60)
def wsX7_differsFrom : List Cond := .code yX7_differsFrom cX7_differsFrom 3 (some .boolean) :: ([.fieldLink RX7 9 "RangePropagator$State" "isNone" "Z", .fieldLink RX7 15 "RangePropagator$State" "low" "[I", .fieldLink RX7 19 "RangePropagator$State" "high" "[I"] ++ wsX70)
def wsX7_setRange : List Cond := .code yX7_setRange cX7_setRange 4 none :: ([.fieldLink RX7 15 "RangePropagator$State" "low" "[I", .fieldLink RX7 19 "RangePropagator$State" "high" "[I"] ++ wsX70)
def wsX1_outcome : List Cond := .code yX1_outcome cX1_outcome 5 (some .int) :: ([.methodLink RX1 9 Lib.Math.min.name, .static Lib.Math.min.name, .initialized "java/lang/Math", .code Lib.Math.min.name Lib.Math.min.code 2 (some .int), .methodLink RX1 15 Lib.Math.max.name, .static Lib.Math.max.name, .code Lib.Math.max.name Lib.Math.max.code 2 (some .int), .constantLong RX1 18 (-1000000000), .constantLong RX1 20 (1000000000), .methodLink RX1 22 Lib.MathLoose.min_long.x, .static Lib.MathLoose.min_long.x, .code Lib.MathLoose.min_long.x Lib.MathLoose.min_long.code 4 (some .long), .methodLink RX1 25 Lib.MathLoose.max_long.x, .static Lib.MathLoose.max_long.x, .code Lib.MathLoose.max_long.x Lib.MathLoose.max_long.code 4 (some .long)])
def wsX7_assign : List Cond := .code yX7_assign cX7_assign 9 none :: ([.fieldLink RX7 15 "RangePropagator$State" "low" "[I", .fieldLink RX7 19 "RangePropagator$State" "high" "[I", .methodLink RX7 32 Lib.Math.min.name, .static Lib.Math.min.name, .initialized "java/lang/Math", .code Lib.Math.min.name Lib.Math.min.code 2 (some .int), .methodLink RX7 38 Lib.Math.max.name, .static Lib.Math.max.name, .code Lib.Math.max.name Lib.Math.max.code 2 (some .int), .methodLink RX7 45 yX1_outcome, .static yX1_outcome, .initialized RX1, .code yX1_outcome cX1_outcome 5 (some .int), .methodLink RX1 9 Lib.Math.min.name, .methodLink RX1 15 Lib.Math.max.name, .constantLong RX1 18 (-1000000000), .constantLong RX1 20 (1000000000), .methodLink RX1 22 Lib.MathLoose.min_long.x, .static Lib.MathLoose.min_long.x, .code Lib.MathLoose.min_long.x Lib.MathLoose.min_long.code 4 (some .long), .methodLink RX1 25 Lib.MathLoose.max_long.x, .static Lib.MathLoose.max_long.x, .code Lib.MathLoose.max_long.x Lib.MathLoose.max_long.code 4 (some .long)] ++ wsX70)
def wsX2_applyTo_r1 : List Cond := [Cond.fieldLink RX2 43 "RangePropagator$State" "isNone" "Z", Cond.fieldLink RX2 9 "RangePropagator$Block" "statementCount" "I", Cond.fieldLink RX2 15 "RangePropagator$Block" "kinds" "[I", Cond.fieldLink RX2 19 "RangePropagator$Block" "targets" "[I", Cond.fieldLink RX2 22 "RangePropagator$Block" "firsts" "[I", Cond.fieldLink RX2 25 "RangePropagator$Block" "seconds" "[I", Cond.methodLink RX2 49 yX7_setRange, Cond.instanceMethod yX7_setRange, Cond.selects RX7 yX7_setRange yX7_setRange, Cond.initialized RX7, Cond.code yX7_setRange cX7_setRange 4 none, Cond.fieldLink RX7 15 "RangePropagator$State" "low" "[I", Cond.fieldLink RX7 19 "RangePropagator$State" "high" "[I", Cond.methodLink RX2 53 yX7_assign, Cond.instanceMethod yX7_assign, Cond.selects RX7 yX7_assign yX7_assign, Cond.code yX7_assign cX7_assign 9 none, Cond.methodLink RX7 32 Lib.Math.min.name, Cond.static Lib.Math.min.name, Cond.initialized "java/lang/Math", Cond.code Lib.Math.min.name Lib.Math.min.code 2 (some .int), Cond.methodLink RX7 38 Lib.Math.max.name, Cond.static Lib.Math.max.name, Cond.code Lib.Math.max.name Lib.Math.max.code 2 (some .int)]
def wsX2_applyTo_r2 : List Cond := [Cond.methodLink RX7 45 yX1_outcome, Cond.static yX1_outcome, Cond.initialized RX1, Cond.code yX1_outcome cX1_outcome 5 (some .int), Cond.methodLink RX1 9 Lib.Math.min.name, Cond.methodLink RX1 15 Lib.Math.max.name, Cond.constantLong RX1 18 (-1000000000), Cond.constantLong RX1 20 (1000000000), Cond.methodLink RX1 22 Lib.MathLoose.min_long.x, Cond.static Lib.MathLoose.min_long.x, Cond.code Lib.MathLoose.min_long.x Lib.MathLoose.min_long.code 4 (some .long), Cond.methodLink RX1 25 Lib.MathLoose.max_long.x, Cond.static Lib.MathLoose.max_long.x, Cond.code Lib.MathLoose.max_long.x Lib.MathLoose.max_long.code 4 (some .long)]
def wsX2_applyTo : List Cond := .code yX2_applyTo cX2_applyTo 3 none :: ((wsX2_applyTo_r1 ++ wsX2_applyTo_r2) ++ wsX70 ++ wsX20)
def wsX1_isTrue : List Cond := .code yX1_isTrue cX1_isTrue 3 (some .boolean) :: ([])
def wsX7_keepOrdered : List Cond := .code yX7_keepOrdered cX7_keepOrdered 4 none :: ([.fieldLink RX7 15 "RangePropagator$State" "low" "[I", .fieldLink RX7 19 "RangePropagator$State" "high" "[I", .fieldLink RX7 9 "RangePropagator$State" "isNone" "Z", .methodLink RX7 32 Lib.Math.min.name, .static Lib.Math.min.name, .initialized "java/lang/Math", .code Lib.Math.min.name Lib.Math.min.code 2 (some .int), .methodLink RX7 38 Lib.Math.max.name, .static Lib.Math.max.name, .code Lib.Math.max.name Lib.Math.max.code 2 (some .int)] ++ wsX70)
def wsX7_keepEqual : List Cond := .code yX7_keepEqual cX7_keepEqual 5 none :: ([.fieldLink RX7 15 "RangePropagator$State" "low" "[I", .methodLink RX7 38 Lib.Math.max.name, .static Lib.Math.max.name, .initialized "java/lang/Math", .code Lib.Math.max.name Lib.Math.max.code 2 (some .int), .fieldLink RX7 19 "RangePropagator$State" "high" "[I", .methodLink RX7 32 Lib.Math.min.name, .static Lib.Math.min.name, .code Lib.Math.min.name Lib.Math.min.code 2 (some .int), .fieldLink RX7 9 "RangePropagator$State" "isNone" "Z", .methodLink RX7 66 yX7_setRange, .instanceMethod yX7_setRange, .selects RX7 yX7_setRange yX7_setRange, .initialized RX7, .code yX7_setRange cX7_setRange 4 none] ++ wsX70)
def wsX7_isConstant : List Cond := .code yX7_isConstant cX7_isConstant 2 (some .boolean) :: ([.fieldLink RX7 15 "RangePropagator$State" "low" "[I", .fieldLink RX7 19 "RangePropagator$State" "high" "[I"] ++ wsX70)
def wsX7_cutOff : List Cond := .code yX7_cutOff cX7_cutOff 3 none :: ([.fieldLink RX7 15 "RangePropagator$State" "low" "[I", .fieldLink RX7 19 "RangePropagator$State" "high" "[I"] ++ wsX70)
def wsX7_keepUnequal : List Cond := .code yX7_keepUnequal cX7_keepUnequal 3 none :: ([.fieldLink RX7 15 "RangePropagator$State" "low" "[I", .fieldLink RX7 9 "RangePropagator$State" "isNone" "Z", .methodLink RX7 41 yX7_isConstant, .instanceMethod yX7_isConstant, .selects RX7 yX7_isConstant yX7_isConstant, .initialized RX7, .code yX7_isConstant cX7_isConstant 2 (some .boolean), .fieldLink RX7 19 "RangePropagator$State" "high" "[I", .methodLink RX7 69 yX7_cutOff, .instanceMethod yX7_cutOff, .selects RX7 yX7_cutOff yX7_cutOff, .code yX7_cutOff cX7_cutOff 3 none] ++ wsX70)
def wsX7_refine_r1 : List Cond := [Cond.fieldLink RX7 9 "RangePropagator$State" "isNone" "Z", Cond.methodLink RX7 51 yX1_isTrue, Cond.static yX1_isTrue, Cond.initialized RX1, Cond.code yX1_isTrue cX1_isTrue 3 (some .boolean), Cond.methodLink RX7 55 yX7_keepOrdered, Cond.instanceMethod yX7_keepOrdered, Cond.selects RX7 yX7_keepOrdered yX7_keepOrdered, Cond.initialized RX7, Cond.code yX7_keepOrdered cX7_keepOrdered 4 none, Cond.fieldLink RX7 15 "RangePropagator$State" "low" "[I", Cond.fieldLink RX7 19 "RangePropagator$State" "high" "[I", Cond.methodLink RX7 32 Lib.Math.min.name, Cond.static Lib.Math.min.name, Cond.initialized "java/lang/Math", Cond.code Lib.Math.min.name Lib.Math.min.code 2 (some .int), Cond.methodLink RX7 38 Lib.Math.max.name, Cond.static Lib.Math.max.name, Cond.code Lib.Math.max.name Lib.Math.max.code 2 (some .int), Cond.methodLink RX7 59 yX7_keepEqual, Cond.instanceMethod yX7_keepEqual, Cond.selects RX7 yX7_keepEqual yX7_keepEqual, Cond.code yX7_keepEqual cX7_keepEqual 5 none, Cond.methodLink RX7 66 yX7_setRange]
def wsX7_refine_r2 : List Cond := [Cond.instanceMethod yX7_setRange, Cond.selects RX7 yX7_setRange yX7_setRange, Cond.code yX7_setRange cX7_setRange 4 none, Cond.methodLink RX7 63 yX7_keepUnequal, Cond.instanceMethod yX7_keepUnequal, Cond.selects RX7 yX7_keepUnequal yX7_keepUnequal, Cond.code yX7_keepUnequal cX7_keepUnequal 3 none, Cond.methodLink RX7 41 yX7_isConstant, Cond.instanceMethod yX7_isConstant, Cond.selects RX7 yX7_isConstant yX7_isConstant, Cond.code yX7_isConstant cX7_isConstant 2 (some .boolean), Cond.methodLink RX7 69 yX7_cutOff, Cond.instanceMethod yX7_cutOff, Cond.selects RX7 yX7_cutOff yX7_cutOff, Cond.code yX7_cutOff cX7_cutOff 3 none]
def wsX7_refine : List Cond := .code yX7_refine cX7_refine 4 none :: ((wsX7_refine_r1 ++ wsX7_refine_r2) ++ wsX70)
def wsX1_oppositeOfSwapped : List Cond := .code yX1_oppositeOfSwapped cX1_oppositeOfSwapped 1 (some .int) :: ([])
def wsX2_refineForEdge_r1 : List Cond := [Cond.fieldLink RX2 43 "RangePropagator$State" "isNone" "Z", Cond.fieldLink RX2 28 "RangePropagator$Block" "edgeCount" "I", Cond.fieldLink RX2 34 "RangePropagator$Block" "branchX" "I", Cond.fieldLink RX2 40 "RangePropagator$Block" "relation" "I", Cond.fieldLink RX2 37 "RangePropagator$Block" "branchY" "I", Cond.methodLink RX2 57 yX7_refine, Cond.instanceMethod yX7_refine, Cond.selects RX7 yX7_refine yX7_refine, Cond.initialized RX7, Cond.code yX7_refine cX7_refine 4 none, Cond.fieldLink RX7 9 "RangePropagator$State" "isNone" "Z", Cond.methodLink RX7 51 yX1_isTrue, Cond.static yX1_isTrue, Cond.initialized RX1, Cond.code yX1_isTrue cX1_isTrue 3 (some .boolean), Cond.methodLink RX7 55 yX7_keepOrdered, Cond.instanceMethod yX7_keepOrdered, Cond.selects RX7 yX7_keepOrdered yX7_keepOrdered, Cond.code yX7_keepOrdered cX7_keepOrdered 4 none, Cond.fieldLink RX7 15 "RangePropagator$State" "low" "[I", Cond.fieldLink RX7 19 "RangePropagator$State" "high" "[I", Cond.methodLink RX7 32 Lib.Math.min.name, Cond.static Lib.Math.min.name, Cond.initialized "java/lang/Math"]
def wsX2_refineForEdge_r2 : List Cond := [Cond.code Lib.Math.min.name Lib.Math.min.code 2 (some .int), Cond.methodLink RX7 38 Lib.Math.max.name, Cond.static Lib.Math.max.name, Cond.code Lib.Math.max.name Lib.Math.max.code 2 (some .int), Cond.methodLink RX7 59 yX7_keepEqual, Cond.instanceMethod yX7_keepEqual, Cond.selects RX7 yX7_keepEqual yX7_keepEqual, Cond.code yX7_keepEqual cX7_keepEqual 5 none, Cond.methodLink RX7 66 yX7_setRange, Cond.instanceMethod yX7_setRange, Cond.selects RX7 yX7_setRange yX7_setRange, Cond.code yX7_setRange cX7_setRange 4 none, Cond.methodLink RX7 63 yX7_keepUnequal, Cond.instanceMethod yX7_keepUnequal, Cond.selects RX7 yX7_keepUnequal yX7_keepUnequal, Cond.code yX7_keepUnequal cX7_keepUnequal 3 none, Cond.methodLink RX7 41 yX7_isConstant, Cond.instanceMethod yX7_isConstant, Cond.selects RX7 yX7_isConstant yX7_isConstant, Cond.code yX7_isConstant cX7_isConstant 2 (some .boolean), Cond.methodLink RX7 69 yX7_cutOff, Cond.instanceMethod yX7_cutOff, Cond.selects RX7 yX7_cutOff yX7_cutOff, Cond.code yX7_cutOff cX7_cutOff 3 none]
def wsX2_refineForEdge_r3 : List Cond := [Cond.methodLink RX2 60 yX1_oppositeOfSwapped, Cond.static yX1_oppositeOfSwapped, Cond.code yX1_oppositeOfSwapped cX1_oppositeOfSwapped 1 (some .int)]
def wsX2_refineForEdge : List Cond := .code yX2_refineForEdge cX2_refineForEdge 3 none :: ((wsX2_refineForEdge_r1 ++ (wsX2_refineForEdge_r2 ++ wsX2_refineForEdge_r3)) ++ wsX70 ++ wsX20)
def wsX4_makeAnew_r1 : List Cond := [Cond.fieldLink RX4 18 "RangePropagator$Flow" "exitState" "LRangePropagator$State;", Cond.fieldLink RX4 12 "RangePropagator$Flow" "entryState" "LRangePropagator$State;", Cond.fieldLink RX4 42 "RangePropagator$Block" "edgeCount" "I", Cond.fieldLink RX4 21 "RangePropagator$Flow" "edgeStates" "[LRangePropagator$State;", Cond.methodLink RX4 33 yX7_become, Cond.instanceMethod yX7_become, Cond.selects RX7 yX7_become yX7_become, Cond.initialized RX7, Cond.code yX7_become cX7_become 2 none, Cond.fieldLink RX7 9 "RangePropagator$State" "isNone" "Z", Cond.fieldLink RX7 15 "RangePropagator$State" "low" "[I", Cond.methodLink RX7 22 arraycopyName, Cond.native arraycopyName, Cond.static arraycopyName, Cond.initialized "java/lang/System", Cond.fieldLink RX7 19 "RangePropagator$State" "high" "[I", Cond.methodLink RX4 37 yX2_applyTo, Cond.instanceMethod yX2_applyTo, Cond.selects RX2 yX2_applyTo yX2_applyTo, Cond.initialized RX2, Cond.code yX2_applyTo cX2_applyTo 3 none, Cond.fieldLink RX2 43 "RangePropagator$State" "isNone" "Z", Cond.fieldLink RX2 9 "RangePropagator$Block" "statementCount" "I", Cond.fieldLink RX2 15 "RangePropagator$Block" "kinds" "[I"]
def wsX4_makeAnew_r2 : List Cond := [Cond.fieldLink RX2 19 "RangePropagator$Block" "targets" "[I", Cond.fieldLink RX2 22 "RangePropagator$Block" "firsts" "[I", Cond.fieldLink RX2 25 "RangePropagator$Block" "seconds" "[I", Cond.methodLink RX2 49 yX7_setRange, Cond.instanceMethod yX7_setRange, Cond.selects RX7 yX7_setRange yX7_setRange, Cond.code yX7_setRange cX7_setRange 4 none, Cond.methodLink RX2 53 yX7_assign, Cond.instanceMethod yX7_assign, Cond.selects RX7 yX7_assign yX7_assign, Cond.code yX7_assign cX7_assign 9 none, Cond.methodLink RX7 32 Lib.Math.min.name, Cond.static Lib.Math.min.name, Cond.initialized "java/lang/Math", Cond.code Lib.Math.min.name Lib.Math.min.code 2 (some .int), Cond.methodLink RX7 38 Lib.Math.max.name, Cond.static Lib.Math.max.name, Cond.code Lib.Math.max.name Lib.Math.max.code 2 (some .int), Cond.methodLink RX7 45 yX1_outcome, Cond.static yX1_outcome, Cond.initialized RX1, Cond.code yX1_outcome cX1_outcome 5 (some .int), Cond.methodLink RX1 9 Lib.Math.min.name, Cond.methodLink RX1 15 Lib.Math.max.name]
def wsX4_makeAnew_r3 : List Cond := [Cond.constantLong RX1 18 (-1000000000), Cond.constantLong RX1 20 (1000000000), Cond.methodLink RX1 22 Lib.MathLoose.min_long.x, Cond.static Lib.MathLoose.min_long.x, Cond.code Lib.MathLoose.min_long.x Lib.MathLoose.min_long.code 4 (some .long), Cond.methodLink RX1 25 Lib.MathLoose.max_long.x, Cond.static Lib.MathLoose.max_long.x, Cond.code Lib.MathLoose.max_long.x Lib.MathLoose.max_long.code 4 (some .long), Cond.methodLink RX4 45 yX2_refineForEdge, Cond.instanceMethod yX2_refineForEdge, Cond.selects RX2 yX2_refineForEdge yX2_refineForEdge, Cond.code yX2_refineForEdge cX2_refineForEdge 3 none, Cond.fieldLink RX2 28 "RangePropagator$Block" "edgeCount" "I", Cond.fieldLink RX2 34 "RangePropagator$Block" "branchX" "I", Cond.fieldLink RX2 40 "RangePropagator$Block" "relation" "I", Cond.fieldLink RX2 37 "RangePropagator$Block" "branchY" "I", Cond.methodLink RX2 57 yX7_refine, Cond.instanceMethod yX7_refine, Cond.selects RX7 yX7_refine yX7_refine, Cond.code yX7_refine cX7_refine 4 none, Cond.methodLink RX7 51 yX1_isTrue, Cond.static yX1_isTrue, Cond.code yX1_isTrue cX1_isTrue 3 (some .boolean), Cond.methodLink RX7 55 yX7_keepOrdered]
def wsX4_makeAnew_r4 : List Cond := [Cond.instanceMethod yX7_keepOrdered, Cond.selects RX7 yX7_keepOrdered yX7_keepOrdered, Cond.code yX7_keepOrdered cX7_keepOrdered 4 none, Cond.methodLink RX7 59 yX7_keepEqual, Cond.instanceMethod yX7_keepEqual, Cond.selects RX7 yX7_keepEqual yX7_keepEqual, Cond.code yX7_keepEqual cX7_keepEqual 5 none, Cond.methodLink RX7 66 yX7_setRange, Cond.methodLink RX7 63 yX7_keepUnequal, Cond.instanceMethod yX7_keepUnequal, Cond.selects RX7 yX7_keepUnequal yX7_keepUnequal, Cond.code yX7_keepUnequal cX7_keepUnequal 3 none, Cond.methodLink RX7 41 yX7_isConstant, Cond.instanceMethod yX7_isConstant, Cond.selects RX7 yX7_isConstant yX7_isConstant, Cond.code yX7_isConstant cX7_isConstant 2 (some .boolean), Cond.methodLink RX7 69 yX7_cutOff, Cond.instanceMethod yX7_cutOff, Cond.selects RX7 yX7_cutOff yX7_cutOff, Cond.code yX7_cutOff cX7_cutOff 3 none, Cond.methodLink RX2 60 yX1_oppositeOfSwapped, Cond.static yX1_oppositeOfSwapped, Cond.code yX1_oppositeOfSwapped cX1_oppositeOfSwapped 1 (some .int)]
def wsX4_makeAnew : List Cond := .code yX4_makeAnew cX4_makeAnew 3 none :: ((wsX4_makeAnew_r1 ++ (wsX4_makeAnew_r2 ++ (wsX4_makeAnew_r3 ++ wsX4_makeAnew_r4))) ++ wsX40 ++ wsX20 ++ wsX70)
def wsX0_lookAt_r1 : List Cond := [Cond.fieldLink RX0 20 "RangePropagator$Analysis" "incoming" "LRangePropagator$State;", Cond.fieldLink RX0 49 "RangePropagator$State" "isNone" "Z", Cond.fieldLink RX0 11 "RangePropagator$Analysis" "flows" "[LRangePropagator$Flow;", Cond.fieldLink RX0 24 "RangePropagator$Analysis" "joined" "LRangePropagator$State;", Cond.fieldLink RX0 53 "RangePropagator$Flow" "entryState" "LRangePropagator$State;", Cond.fieldLink RX0 63 "RangePropagator$Flow" "visitCount" "I", Cond.fieldLink RX0 66 "RangePropagator$Settings" "delay" "I", Cond.fieldLink RX0 79 "RangePropagator$Program" "blocks" "[LRangePropagator$Block;", Cond.methodLink RX0 46 yX0_gatherIncoming, Cond.instanceMethod yX0_gatherIncoming, Cond.selects RX0 yX0_gatherIncoming yX0_gatherIncoming, Cond.initialized RX0, Cond.code yX0_gatherIncoming cX0_gatherIncoming 6 none, Cond.fieldLink RX0 90 "RangePropagator$Program" "initial" "LRangePropagator$State;", Cond.fieldLink RX0 32 "RangePropagator$Program" "count" "I", Cond.fieldLink RX0 93 "RangePropagator$Block" "edgeCount" "I", Cond.fieldLink RX0 98 "RangePropagator$Block" "followers" "[I", Cond.fieldLink RX0 102 "RangePropagator$Flow" "edgeStates" "[LRangePropagator$State;", Cond.methodLink RX0 60 yX7_join, Cond.instanceMethod yX7_join, Cond.selects RX7 yX7_join yX7_join, Cond.initialized RX7, Cond.code yX7_join cX7_join 3 none, Cond.fieldLink RX7 9 "RangePropagator$State" "isNone" "Z"]
def wsX0_lookAt_r2 : List Cond := [Cond.fieldLink RX7 15 "RangePropagator$State" "low" "[I", Cond.methodLink RX7 32 Lib.Math.min.name, Cond.static Lib.Math.min.name, Cond.initialized "java/lang/Math", Cond.code Lib.Math.min.name Lib.Math.min.code 2 (some .int), Cond.fieldLink RX7 19 "RangePropagator$State" "high" "[I", Cond.methodLink RX7 38 Lib.Math.max.name, Cond.static Lib.Math.max.name, Cond.code Lib.Math.max.name Lib.Math.max.code 2 (some .int), Cond.methodLink RX7 28 yX7_become, Cond.instanceMethod yX7_become, Cond.selects RX7 yX7_become yX7_become, Cond.code yX7_become cX7_become 2 none, Cond.methodLink RX7 22 arraycopyName, Cond.native arraycopyName, Cond.static arraycopyName, Cond.initialized "java/lang/System", Cond.methodLink RX0 56 yX7_become, Cond.methodLink RX0 71 yX6_widen, Cond.instanceMethod yX6_widen, Cond.selects RX6 yX6_widen yX6_widen, Cond.initialized RX6, Cond.code yX6_widen cX6_widen 4 none, Cond.fieldLink RX6 25 "RangePropagator$State" "low" "[I"]
def wsX0_lookAt_r3 : List Cond := [Cond.fieldLink RX6 34 "RangePropagator$State" "high" "[I", Cond.methodLink RX6 30 yX6_greatestUpTo, Cond.instanceMethod yX6_greatestUpTo, Cond.selects RX6 yX6_greatestUpTo yX6_greatestUpTo, Cond.code yX6_greatestUpTo cX6_greatestUpTo 4 (some .int), Cond.constant RX6 40 (-1000000000), Cond.fieldLink RX6 18 "RangePropagator$Settings" "thresholdCount" "I", Cond.fieldLink RX6 21 "RangePropagator$Settings" "thresholds" "[I", Cond.methodLink RX6 37 yX6_smallestFrom, Cond.instanceMethod yX6_smallestFrom, Cond.selects RX6 yX6_smallestFrom yX6_smallestFrom, Cond.code yX6_smallestFrom cX6_smallestFrom 4 (some .int), Cond.constant RX6 41 (1000000000), Cond.methodLink RX0 75 yX7_differsFrom, Cond.instanceMethod yX7_differsFrom, Cond.selects RX7 yX7_differsFrom yX7_differsFrom, Cond.code yX7_differsFrom cX7_differsFrom 3 (some .boolean), Cond.methodLink RX0 83 yX4_makeAnew, Cond.instanceMethod yX4_makeAnew, Cond.selects RX4 yX4_makeAnew yX4_makeAnew, Cond.initialized RX4, Cond.code yX4_makeAnew cX4_makeAnew 3 none, Cond.fieldLink RX4 18 "RangePropagator$Flow" "exitState" "LRangePropagator$State;", Cond.fieldLink RX4 12 "RangePropagator$Flow" "entryState" "LRangePropagator$State;"]
def wsX0_lookAt_r4 : List Cond := [Cond.fieldLink RX4 42 "RangePropagator$Block" "edgeCount" "I", Cond.fieldLink RX4 21 "RangePropagator$Flow" "edgeStates" "[LRangePropagator$State;", Cond.methodLink RX4 33 yX7_become, Cond.methodLink RX4 37 yX2_applyTo, Cond.instanceMethod yX2_applyTo, Cond.selects RX2 yX2_applyTo yX2_applyTo, Cond.initialized RX2, Cond.code yX2_applyTo cX2_applyTo 3 none, Cond.fieldLink RX2 43 "RangePropagator$State" "isNone" "Z", Cond.fieldLink RX2 9 "RangePropagator$Block" "statementCount" "I", Cond.fieldLink RX2 15 "RangePropagator$Block" "kinds" "[I", Cond.fieldLink RX2 19 "RangePropagator$Block" "targets" "[I", Cond.fieldLink RX2 22 "RangePropagator$Block" "firsts" "[I", Cond.fieldLink RX2 25 "RangePropagator$Block" "seconds" "[I", Cond.methodLink RX2 49 yX7_setRange, Cond.instanceMethod yX7_setRange, Cond.selects RX7 yX7_setRange yX7_setRange, Cond.code yX7_setRange cX7_setRange 4 none, Cond.methodLink RX2 53 yX7_assign, Cond.instanceMethod yX7_assign, Cond.selects RX7 yX7_assign yX7_assign, Cond.code yX7_assign cX7_assign 9 none, Cond.methodLink RX7 45 yX1_outcome, Cond.static yX1_outcome]
def wsX0_lookAt_r5 : List Cond := [Cond.initialized RX1, Cond.code yX1_outcome cX1_outcome 5 (some .int), Cond.methodLink RX1 9 Lib.Math.min.name, Cond.methodLink RX1 15 Lib.Math.max.name, Cond.constantLong RX1 18 (-1000000000), Cond.constantLong RX1 20 (1000000000), Cond.methodLink RX1 22 Lib.MathLoose.min_long.x, Cond.static Lib.MathLoose.min_long.x, Cond.code Lib.MathLoose.min_long.x Lib.MathLoose.min_long.code 4 (some .long), Cond.methodLink RX1 25 Lib.MathLoose.max_long.x, Cond.static Lib.MathLoose.max_long.x, Cond.code Lib.MathLoose.max_long.x Lib.MathLoose.max_long.code 4 (some .long), Cond.methodLink RX4 45 yX2_refineForEdge, Cond.instanceMethod yX2_refineForEdge, Cond.selects RX2 yX2_refineForEdge yX2_refineForEdge, Cond.code yX2_refineForEdge cX2_refineForEdge 3 none, Cond.fieldLink RX2 28 "RangePropagator$Block" "edgeCount" "I", Cond.fieldLink RX2 34 "RangePropagator$Block" "branchX" "I", Cond.fieldLink RX2 40 "RangePropagator$Block" "relation" "I", Cond.fieldLink RX2 37 "RangePropagator$Block" "branchY" "I", Cond.methodLink RX2 57 yX7_refine, Cond.instanceMethod yX7_refine, Cond.selects RX7 yX7_refine yX7_refine, Cond.code yX7_refine cX7_refine 4 none]
def wsX0_lookAt_r6 : List Cond := [Cond.methodLink RX7 51 yX1_isTrue, Cond.static yX1_isTrue, Cond.code yX1_isTrue cX1_isTrue 3 (some .boolean), Cond.methodLink RX7 55 yX7_keepOrdered, Cond.instanceMethod yX7_keepOrdered, Cond.selects RX7 yX7_keepOrdered yX7_keepOrdered, Cond.code yX7_keepOrdered cX7_keepOrdered 4 none, Cond.methodLink RX7 59 yX7_keepEqual, Cond.instanceMethod yX7_keepEqual, Cond.selects RX7 yX7_keepEqual yX7_keepEqual, Cond.code yX7_keepEqual cX7_keepEqual 5 none, Cond.methodLink RX7 66 yX7_setRange, Cond.methodLink RX7 63 yX7_keepUnequal, Cond.instanceMethod yX7_keepUnequal, Cond.selects RX7 yX7_keepUnequal yX7_keepUnequal, Cond.code yX7_keepUnequal cX7_keepUnequal 3 none, Cond.methodLink RX7 41 yX7_isConstant, Cond.instanceMethod yX7_isConstant, Cond.selects RX7 yX7_isConstant yX7_isConstant, Cond.code yX7_isConstant cX7_isConstant 2 (some .boolean), Cond.methodLink RX7 69 yX7_cutOff, Cond.instanceMethod yX7_cutOff, Cond.selects RX7 yX7_cutOff yX7_cutOff, Cond.code yX7_cutOff cX7_cutOff 3 none]
def wsX0_lookAt_r7 : List Cond := [Cond.methodLink RX2 60 yX1_oppositeOfSwapped, Cond.static yX1_oppositeOfSwapped, Cond.code yX1_oppositeOfSwapped cX1_oppositeOfSwapped 1 (some .int)]
def wsX0_lookAt : List Cond := .code yX0_lookAt cX0_lookAt 5 (some .boolean) :: ((wsX0_lookAt_r1 ++ (wsX0_lookAt_r2 ++ (wsX0_lookAt_r3 ++ (wsX0_lookAt_r4 ++ (wsX0_lookAt_r5 ++ (wsX0_lookAt_r6 ++ wsX0_lookAt_r7)))))) ++ wsX00 ++ wsX70 ++ wsX40 ++ wsX60 ++ wsX50 ++ wsX20)
def wsX0_makeRounds_r1 : List Cond := [Cond.constant RX0 31 (1000000), Cond.fieldLink RX0 32 "RangePropagator$Program" "count" "I", Cond.methodLink RX0 38 yX0_lookAt, Cond.instanceMethod yX0_lookAt, Cond.selects RX0 yX0_lookAt yX0_lookAt, Cond.initialized RX0, Cond.code yX0_lookAt cX0_lookAt 5 (some .boolean), Cond.fieldLink RX0 20 "RangePropagator$Analysis" "incoming" "LRangePropagator$State;", Cond.fieldLink RX0 49 "RangePropagator$State" "isNone" "Z", Cond.fieldLink RX0 11 "RangePropagator$Analysis" "flows" "[LRangePropagator$Flow;", Cond.fieldLink RX0 24 "RangePropagator$Analysis" "joined" "LRangePropagator$State;", Cond.fieldLink RX0 53 "RangePropagator$Flow" "entryState" "LRangePropagator$State;", Cond.fieldLink RX0 63 "RangePropagator$Flow" "visitCount" "I", Cond.fieldLink RX0 66 "RangePropagator$Settings" "delay" "I", Cond.fieldLink RX0 79 "RangePropagator$Program" "blocks" "[LRangePropagator$Block;", Cond.methodLink RX0 46 yX0_gatherIncoming, Cond.instanceMethod yX0_gatherIncoming, Cond.selects RX0 yX0_gatherIncoming yX0_gatherIncoming, Cond.code yX0_gatherIncoming cX0_gatherIncoming 6 none, Cond.fieldLink RX0 90 "RangePropagator$Program" "initial" "LRangePropagator$State;", Cond.fieldLink RX0 93 "RangePropagator$Block" "edgeCount" "I", Cond.fieldLink RX0 98 "RangePropagator$Block" "followers" "[I", Cond.fieldLink RX0 102 "RangePropagator$Flow" "edgeStates" "[LRangePropagator$State;", Cond.methodLink RX0 60 yX7_join]
def wsX0_makeRounds_r2 : List Cond := [Cond.instanceMethod yX7_join, Cond.selects RX7 yX7_join yX7_join, Cond.initialized RX7, Cond.code yX7_join cX7_join 3 none, Cond.fieldLink RX7 9 "RangePropagator$State" "isNone" "Z", Cond.fieldLink RX7 15 "RangePropagator$State" "low" "[I", Cond.methodLink RX7 32 Lib.Math.min.name, Cond.static Lib.Math.min.name, Cond.initialized "java/lang/Math", Cond.code Lib.Math.min.name Lib.Math.min.code 2 (some .int), Cond.fieldLink RX7 19 "RangePropagator$State" "high" "[I", Cond.methodLink RX7 38 Lib.Math.max.name, Cond.static Lib.Math.max.name, Cond.code Lib.Math.max.name Lib.Math.max.code 2 (some .int), Cond.methodLink RX7 28 yX7_become, Cond.instanceMethod yX7_become, Cond.selects RX7 yX7_become yX7_become, Cond.code yX7_become cX7_become 2 none, Cond.methodLink RX7 22 arraycopyName, Cond.native arraycopyName, Cond.static arraycopyName, Cond.initialized "java/lang/System", Cond.methodLink RX0 56 yX7_become, Cond.methodLink RX0 71 yX6_widen]
def wsX0_makeRounds_r3 : List Cond := [Cond.instanceMethod yX6_widen, Cond.selects RX6 yX6_widen yX6_widen, Cond.initialized RX6, Cond.code yX6_widen cX6_widen 4 none, Cond.fieldLink RX6 25 "RangePropagator$State" "low" "[I", Cond.fieldLink RX6 34 "RangePropagator$State" "high" "[I", Cond.methodLink RX6 30 yX6_greatestUpTo, Cond.instanceMethod yX6_greatestUpTo, Cond.selects RX6 yX6_greatestUpTo yX6_greatestUpTo, Cond.code yX6_greatestUpTo cX6_greatestUpTo 4 (some .int), Cond.constant RX6 40 (-1000000000), Cond.fieldLink RX6 18 "RangePropagator$Settings" "thresholdCount" "I", Cond.fieldLink RX6 21 "RangePropagator$Settings" "thresholds" "[I", Cond.methodLink RX6 37 yX6_smallestFrom, Cond.instanceMethod yX6_smallestFrom, Cond.selects RX6 yX6_smallestFrom yX6_smallestFrom, Cond.code yX6_smallestFrom cX6_smallestFrom 4 (some .int), Cond.constant RX6 41 (1000000000), Cond.methodLink RX0 75 yX7_differsFrom, Cond.instanceMethod yX7_differsFrom, Cond.selects RX7 yX7_differsFrom yX7_differsFrom, Cond.code yX7_differsFrom cX7_differsFrom 3 (some .boolean), Cond.methodLink RX0 83 yX4_makeAnew, Cond.instanceMethod yX4_makeAnew]
def wsX0_makeRounds_r4 : List Cond := [Cond.selects RX4 yX4_makeAnew yX4_makeAnew, Cond.initialized RX4, Cond.code yX4_makeAnew cX4_makeAnew 3 none, Cond.fieldLink RX4 18 "RangePropagator$Flow" "exitState" "LRangePropagator$State;", Cond.fieldLink RX4 12 "RangePropagator$Flow" "entryState" "LRangePropagator$State;", Cond.fieldLink RX4 42 "RangePropagator$Block" "edgeCount" "I", Cond.fieldLink RX4 21 "RangePropagator$Flow" "edgeStates" "[LRangePropagator$State;", Cond.methodLink RX4 33 yX7_become, Cond.methodLink RX4 37 yX2_applyTo, Cond.instanceMethod yX2_applyTo, Cond.selects RX2 yX2_applyTo yX2_applyTo, Cond.initialized RX2, Cond.code yX2_applyTo cX2_applyTo 3 none, Cond.fieldLink RX2 43 "RangePropagator$State" "isNone" "Z", Cond.fieldLink RX2 9 "RangePropagator$Block" "statementCount" "I", Cond.fieldLink RX2 15 "RangePropagator$Block" "kinds" "[I", Cond.fieldLink RX2 19 "RangePropagator$Block" "targets" "[I", Cond.fieldLink RX2 22 "RangePropagator$Block" "firsts" "[I", Cond.fieldLink RX2 25 "RangePropagator$Block" "seconds" "[I", Cond.methodLink RX2 49 yX7_setRange, Cond.instanceMethod yX7_setRange, Cond.selects RX7 yX7_setRange yX7_setRange, Cond.code yX7_setRange cX7_setRange 4 none, Cond.methodLink RX2 53 yX7_assign]
def wsX0_makeRounds_r5 : List Cond := [Cond.instanceMethod yX7_assign, Cond.selects RX7 yX7_assign yX7_assign, Cond.code yX7_assign cX7_assign 9 none, Cond.methodLink RX7 45 yX1_outcome, Cond.static yX1_outcome, Cond.initialized RX1, Cond.code yX1_outcome cX1_outcome 5 (some .int), Cond.methodLink RX1 9 Lib.Math.min.name, Cond.methodLink RX1 15 Lib.Math.max.name, Cond.constantLong RX1 18 (-1000000000), Cond.constantLong RX1 20 (1000000000), Cond.methodLink RX1 22 Lib.MathLoose.min_long.x, Cond.static Lib.MathLoose.min_long.x, Cond.code Lib.MathLoose.min_long.x Lib.MathLoose.min_long.code 4 (some .long), Cond.methodLink RX1 25 Lib.MathLoose.max_long.x, Cond.static Lib.MathLoose.max_long.x, Cond.code Lib.MathLoose.max_long.x Lib.MathLoose.max_long.code 4 (some .long), Cond.methodLink RX4 45 yX2_refineForEdge, Cond.instanceMethod yX2_refineForEdge, Cond.selects RX2 yX2_refineForEdge yX2_refineForEdge, Cond.code yX2_refineForEdge cX2_refineForEdge 3 none, Cond.fieldLink RX2 28 "RangePropagator$Block" "edgeCount" "I", Cond.fieldLink RX2 34 "RangePropagator$Block" "branchX" "I", Cond.fieldLink RX2 40 "RangePropagator$Block" "relation" "I"]
def wsX0_makeRounds_r6 : List Cond := [Cond.fieldLink RX2 37 "RangePropagator$Block" "branchY" "I", Cond.methodLink RX2 57 yX7_refine, Cond.instanceMethod yX7_refine, Cond.selects RX7 yX7_refine yX7_refine, Cond.code yX7_refine cX7_refine 4 none, Cond.methodLink RX7 51 yX1_isTrue, Cond.static yX1_isTrue, Cond.code yX1_isTrue cX1_isTrue 3 (some .boolean), Cond.methodLink RX7 55 yX7_keepOrdered, Cond.instanceMethod yX7_keepOrdered, Cond.selects RX7 yX7_keepOrdered yX7_keepOrdered, Cond.code yX7_keepOrdered cX7_keepOrdered 4 none, Cond.methodLink RX7 59 yX7_keepEqual, Cond.instanceMethod yX7_keepEqual, Cond.selects RX7 yX7_keepEqual yX7_keepEqual, Cond.code yX7_keepEqual cX7_keepEqual 5 none, Cond.methodLink RX7 66 yX7_setRange, Cond.methodLink RX7 63 yX7_keepUnequal, Cond.instanceMethod yX7_keepUnequal, Cond.selects RX7 yX7_keepUnequal yX7_keepUnequal, Cond.code yX7_keepUnequal cX7_keepUnequal 3 none, Cond.methodLink RX7 41 yX7_isConstant, Cond.instanceMethod yX7_isConstant, Cond.selects RX7 yX7_isConstant yX7_isConstant]
def wsX0_makeRounds_r7 : List Cond := [Cond.code yX7_isConstant cX7_isConstant 2 (some .boolean), Cond.methodLink RX7 69 yX7_cutOff, Cond.instanceMethod yX7_cutOff, Cond.selects RX7 yX7_cutOff yX7_cutOff, Cond.code yX7_cutOff cX7_cutOff 3 none, Cond.methodLink RX2 60 yX1_oppositeOfSwapped, Cond.static yX1_oppositeOfSwapped, Cond.code yX1_oppositeOfSwapped cX1_oppositeOfSwapped 1 (some .int)]
def wsX0_makeRounds : List Cond := .code yX0_makeRounds cX0_makeRounds 6 (some .int) :: ((wsX0_makeRounds_r1 ++ (wsX0_makeRounds_r2 ++ (wsX0_makeRounds_r3 ++ (wsX0_makeRounds_r4 ++ (wsX0_makeRounds_r5 ++ (wsX0_makeRounds_r6 ++ wsX0_makeRounds_r7)))))) ++ wsX50 ++ wsX00 ++ wsX70 ++ wsX40 ++ wsX60 ++ wsX20)
def wsX7_narrowTo : List Cond := .code yX7_narrowTo cX7_narrowTo 3 none :: ([.fieldLink RX7 9 "RangePropagator$State" "isNone" "Z", .fieldLink RX7 15 "RangePropagator$State" "low" "[I", .methodLink RX7 38 Lib.Math.max.name, .static Lib.Math.max.name, .initialized "java/lang/Math", .code Lib.Math.max.name Lib.Math.max.code 2 (some .int), .fieldLink RX7 19 "RangePropagator$State" "high" "[I", .methodLink RX7 32 Lib.Math.min.name, .static Lib.Math.min.name, .code Lib.Math.min.name Lib.Math.min.code 2 (some .int)] ++ wsX70)
def wsX0_narrow_r1 : List Cond := [Cond.fieldLink RX0 11 "RangePropagator$Analysis" "flows" "[LRangePropagator$Flow;", Cond.fieldLink RX0 53 "RangePropagator$Flow" "entryState" "LRangePropagator$State;", Cond.fieldLink RX0 49 "RangePropagator$State" "isNone" "Z", Cond.fieldLink RX0 20 "RangePropagator$Analysis" "incoming" "LRangePropagator$State;", Cond.fieldLink RX0 79 "RangePropagator$Program" "blocks" "[LRangePropagator$Block;", Cond.methodLink RX0 46 yX0_gatherIncoming, Cond.instanceMethod yX0_gatherIncoming, Cond.selects RX0 yX0_gatherIncoming yX0_gatherIncoming, Cond.initialized RX0, Cond.code yX0_gatherIncoming cX0_gatherIncoming 6 none, Cond.fieldLink RX0 90 "RangePropagator$Program" "initial" "LRangePropagator$State;", Cond.fieldLink RX0 32 "RangePropagator$Program" "count" "I", Cond.fieldLink RX0 93 "RangePropagator$Block" "edgeCount" "I", Cond.fieldLink RX0 98 "RangePropagator$Block" "followers" "[I", Cond.fieldLink RX0 102 "RangePropagator$Flow" "edgeStates" "[LRangePropagator$State;", Cond.methodLink RX0 60 yX7_join, Cond.instanceMethod yX7_join, Cond.selects RX7 yX7_join yX7_join, Cond.initialized RX7, Cond.code yX7_join cX7_join 3 none, Cond.fieldLink RX7 9 "RangePropagator$State" "isNone" "Z", Cond.fieldLink RX7 15 "RangePropagator$State" "low" "[I", Cond.methodLink RX7 32 Lib.Math.min.name, Cond.static Lib.Math.min.name]
def wsX0_narrow_r2 : List Cond := [Cond.initialized "java/lang/Math", Cond.code Lib.Math.min.name Lib.Math.min.code 2 (some .int), Cond.fieldLink RX7 19 "RangePropagator$State" "high" "[I", Cond.methodLink RX7 38 Lib.Math.max.name, Cond.static Lib.Math.max.name, Cond.code Lib.Math.max.name Lib.Math.max.code 2 (some .int), Cond.methodLink RX7 28 yX7_become, Cond.instanceMethod yX7_become, Cond.selects RX7 yX7_become yX7_become, Cond.code yX7_become cX7_become 2 none, Cond.methodLink RX7 22 arraycopyName, Cond.native arraycopyName, Cond.static arraycopyName, Cond.initialized "java/lang/System", Cond.methodLink RX0 87 yX7_narrowTo, Cond.instanceMethod yX7_narrowTo, Cond.selects RX7 yX7_narrowTo yX7_narrowTo, Cond.code yX7_narrowTo cX7_narrowTo 3 none, Cond.methodLink RX0 83 yX4_makeAnew, Cond.instanceMethod yX4_makeAnew, Cond.selects RX4 yX4_makeAnew yX4_makeAnew, Cond.initialized RX4, Cond.code yX4_makeAnew cX4_makeAnew 3 none, Cond.fieldLink RX4 18 "RangePropagator$Flow" "exitState" "LRangePropagator$State;"]
def wsX0_narrow_r3 : List Cond := [Cond.fieldLink RX4 12 "RangePropagator$Flow" "entryState" "LRangePropagator$State;", Cond.fieldLink RX4 42 "RangePropagator$Block" "edgeCount" "I", Cond.fieldLink RX4 21 "RangePropagator$Flow" "edgeStates" "[LRangePropagator$State;", Cond.methodLink RX4 33 yX7_become, Cond.methodLink RX4 37 yX2_applyTo, Cond.instanceMethod yX2_applyTo, Cond.selects RX2 yX2_applyTo yX2_applyTo, Cond.initialized RX2, Cond.code yX2_applyTo cX2_applyTo 3 none, Cond.fieldLink RX2 43 "RangePropagator$State" "isNone" "Z", Cond.fieldLink RX2 9 "RangePropagator$Block" "statementCount" "I", Cond.fieldLink RX2 15 "RangePropagator$Block" "kinds" "[I", Cond.fieldLink RX2 19 "RangePropagator$Block" "targets" "[I", Cond.fieldLink RX2 22 "RangePropagator$Block" "firsts" "[I", Cond.fieldLink RX2 25 "RangePropagator$Block" "seconds" "[I", Cond.methodLink RX2 49 yX7_setRange, Cond.instanceMethod yX7_setRange, Cond.selects RX7 yX7_setRange yX7_setRange, Cond.code yX7_setRange cX7_setRange 4 none, Cond.methodLink RX2 53 yX7_assign, Cond.instanceMethod yX7_assign, Cond.selects RX7 yX7_assign yX7_assign, Cond.code yX7_assign cX7_assign 9 none, Cond.methodLink RX7 45 yX1_outcome]
def wsX0_narrow_r4 : List Cond := [Cond.static yX1_outcome, Cond.initialized RX1, Cond.code yX1_outcome cX1_outcome 5 (some .int), Cond.methodLink RX1 9 Lib.Math.min.name, Cond.methodLink RX1 15 Lib.Math.max.name, Cond.constantLong RX1 18 (-1000000000), Cond.constantLong RX1 20 (1000000000), Cond.methodLink RX1 22 Lib.MathLoose.min_long.x, Cond.static Lib.MathLoose.min_long.x, Cond.code Lib.MathLoose.min_long.x Lib.MathLoose.min_long.code 4 (some .long), Cond.methodLink RX1 25 Lib.MathLoose.max_long.x, Cond.static Lib.MathLoose.max_long.x, Cond.code Lib.MathLoose.max_long.x Lib.MathLoose.max_long.code 4 (some .long), Cond.methodLink RX4 45 yX2_refineForEdge, Cond.instanceMethod yX2_refineForEdge, Cond.selects RX2 yX2_refineForEdge yX2_refineForEdge, Cond.code yX2_refineForEdge cX2_refineForEdge 3 none, Cond.fieldLink RX2 28 "RangePropagator$Block" "edgeCount" "I", Cond.fieldLink RX2 34 "RangePropagator$Block" "branchX" "I", Cond.fieldLink RX2 40 "RangePropagator$Block" "relation" "I", Cond.fieldLink RX2 37 "RangePropagator$Block" "branchY" "I", Cond.methodLink RX2 57 yX7_refine, Cond.instanceMethod yX7_refine, Cond.selects RX7 yX7_refine yX7_refine]
def wsX0_narrow_r5 : List Cond := [Cond.code yX7_refine cX7_refine 4 none, Cond.methodLink RX7 51 yX1_isTrue, Cond.static yX1_isTrue, Cond.code yX1_isTrue cX1_isTrue 3 (some .boolean), Cond.methodLink RX7 55 yX7_keepOrdered, Cond.instanceMethod yX7_keepOrdered, Cond.selects RX7 yX7_keepOrdered yX7_keepOrdered, Cond.code yX7_keepOrdered cX7_keepOrdered 4 none, Cond.methodLink RX7 59 yX7_keepEqual, Cond.instanceMethod yX7_keepEqual, Cond.selects RX7 yX7_keepEqual yX7_keepEqual, Cond.code yX7_keepEqual cX7_keepEqual 5 none, Cond.methodLink RX7 66 yX7_setRange, Cond.methodLink RX7 63 yX7_keepUnequal, Cond.instanceMethod yX7_keepUnequal, Cond.selects RX7 yX7_keepUnequal yX7_keepUnequal, Cond.code yX7_keepUnequal cX7_keepUnequal 3 none, Cond.methodLink RX7 41 yX7_isConstant, Cond.instanceMethod yX7_isConstant, Cond.selects RX7 yX7_isConstant yX7_isConstant, Cond.code yX7_isConstant cX7_isConstant 2 (some .boolean), Cond.methodLink RX7 69 yX7_cutOff, Cond.instanceMethod yX7_cutOff, Cond.selects RX7 yX7_cutOff yX7_cutOff]
def wsX0_narrow_r6 : List Cond := [Cond.code yX7_cutOff cX7_cutOff 3 none, Cond.methodLink RX2 60 yX1_oppositeOfSwapped, Cond.static yX1_oppositeOfSwapped, Cond.code yX1_oppositeOfSwapped cX1_oppositeOfSwapped 1 (some .int)]
def wsX0_narrow : List Cond := .code yX0_narrow cX0_narrow 4 none :: ((wsX0_narrow_r1 ++ (wsX0_narrow_r2 ++ (wsX0_narrow_r3 ++ (wsX0_narrow_r4 ++ (wsX0_narrow_r5 ++ wsX0_narrow_r6))))) ++ wsX00 ++ wsX40 ++ wsX70 ++ wsX50 ++ wsX20)
def wsX0_makeNarrowings_r1 : List Cond := [Cond.fieldLink RX0 32 "RangePropagator$Program" "count" "I", Cond.methodLink RX0 42 yX0_narrow, Cond.instanceMethod yX0_narrow, Cond.selects RX0 yX0_narrow yX0_narrow, Cond.initialized RX0, Cond.code yX0_narrow cX0_narrow 4 none, Cond.fieldLink RX0 11 "RangePropagator$Analysis" "flows" "[LRangePropagator$Flow;", Cond.fieldLink RX0 53 "RangePropagator$Flow" "entryState" "LRangePropagator$State;", Cond.fieldLink RX0 49 "RangePropagator$State" "isNone" "Z", Cond.fieldLink RX0 20 "RangePropagator$Analysis" "incoming" "LRangePropagator$State;", Cond.fieldLink RX0 79 "RangePropagator$Program" "blocks" "[LRangePropagator$Block;", Cond.methodLink RX0 46 yX0_gatherIncoming, Cond.instanceMethod yX0_gatherIncoming, Cond.selects RX0 yX0_gatherIncoming yX0_gatherIncoming, Cond.code yX0_gatherIncoming cX0_gatherIncoming 6 none, Cond.fieldLink RX0 90 "RangePropagator$Program" "initial" "LRangePropagator$State;", Cond.fieldLink RX0 93 "RangePropagator$Block" "edgeCount" "I", Cond.fieldLink RX0 98 "RangePropagator$Block" "followers" "[I", Cond.fieldLink RX0 102 "RangePropagator$Flow" "edgeStates" "[LRangePropagator$State;", Cond.methodLink RX0 60 yX7_join, Cond.instanceMethod yX7_join, Cond.selects RX7 yX7_join yX7_join, Cond.initialized RX7, Cond.code yX7_join cX7_join 3 none]
def wsX0_makeNarrowings_r2 : List Cond := [Cond.fieldLink RX7 9 "RangePropagator$State" "isNone" "Z", Cond.fieldLink RX7 15 "RangePropagator$State" "low" "[I", Cond.methodLink RX7 32 Lib.Math.min.name, Cond.static Lib.Math.min.name, Cond.initialized "java/lang/Math", Cond.code Lib.Math.min.name Lib.Math.min.code 2 (some .int), Cond.fieldLink RX7 19 "RangePropagator$State" "high" "[I", Cond.methodLink RX7 38 Lib.Math.max.name, Cond.static Lib.Math.max.name, Cond.code Lib.Math.max.name Lib.Math.max.code 2 (some .int), Cond.methodLink RX7 28 yX7_become, Cond.instanceMethod yX7_become, Cond.selects RX7 yX7_become yX7_become, Cond.code yX7_become cX7_become 2 none, Cond.methodLink RX7 22 arraycopyName, Cond.native arraycopyName, Cond.static arraycopyName, Cond.initialized "java/lang/System", Cond.methodLink RX0 87 yX7_narrowTo, Cond.instanceMethod yX7_narrowTo, Cond.selects RX7 yX7_narrowTo yX7_narrowTo, Cond.code yX7_narrowTo cX7_narrowTo 3 none, Cond.methodLink RX0 83 yX4_makeAnew, Cond.instanceMethod yX4_makeAnew]
def wsX0_makeNarrowings_r3 : List Cond := [Cond.selects RX4 yX4_makeAnew yX4_makeAnew, Cond.initialized RX4, Cond.code yX4_makeAnew cX4_makeAnew 3 none, Cond.fieldLink RX4 18 "RangePropagator$Flow" "exitState" "LRangePropagator$State;", Cond.fieldLink RX4 12 "RangePropagator$Flow" "entryState" "LRangePropagator$State;", Cond.fieldLink RX4 42 "RangePropagator$Block" "edgeCount" "I", Cond.fieldLink RX4 21 "RangePropagator$Flow" "edgeStates" "[LRangePropagator$State;", Cond.methodLink RX4 33 yX7_become, Cond.methodLink RX4 37 yX2_applyTo, Cond.instanceMethod yX2_applyTo, Cond.selects RX2 yX2_applyTo yX2_applyTo, Cond.initialized RX2, Cond.code yX2_applyTo cX2_applyTo 3 none, Cond.fieldLink RX2 43 "RangePropagator$State" "isNone" "Z", Cond.fieldLink RX2 9 "RangePropagator$Block" "statementCount" "I", Cond.fieldLink RX2 15 "RangePropagator$Block" "kinds" "[I", Cond.fieldLink RX2 19 "RangePropagator$Block" "targets" "[I", Cond.fieldLink RX2 22 "RangePropagator$Block" "firsts" "[I", Cond.fieldLink RX2 25 "RangePropagator$Block" "seconds" "[I", Cond.methodLink RX2 49 yX7_setRange, Cond.instanceMethod yX7_setRange, Cond.selects RX7 yX7_setRange yX7_setRange, Cond.code yX7_setRange cX7_setRange 4 none, Cond.methodLink RX2 53 yX7_assign]
def wsX0_makeNarrowings_r4 : List Cond := [Cond.instanceMethod yX7_assign, Cond.selects RX7 yX7_assign yX7_assign, Cond.code yX7_assign cX7_assign 9 none, Cond.methodLink RX7 45 yX1_outcome, Cond.static yX1_outcome, Cond.initialized RX1, Cond.code yX1_outcome cX1_outcome 5 (some .int), Cond.methodLink RX1 9 Lib.Math.min.name, Cond.methodLink RX1 15 Lib.Math.max.name, Cond.constantLong RX1 18 (-1000000000), Cond.constantLong RX1 20 (1000000000), Cond.methodLink RX1 22 Lib.MathLoose.min_long.x, Cond.static Lib.MathLoose.min_long.x, Cond.code Lib.MathLoose.min_long.x Lib.MathLoose.min_long.code 4 (some .long), Cond.methodLink RX1 25 Lib.MathLoose.max_long.x, Cond.static Lib.MathLoose.max_long.x, Cond.code Lib.MathLoose.max_long.x Lib.MathLoose.max_long.code 4 (some .long), Cond.methodLink RX4 45 yX2_refineForEdge, Cond.instanceMethod yX2_refineForEdge, Cond.selects RX2 yX2_refineForEdge yX2_refineForEdge, Cond.code yX2_refineForEdge cX2_refineForEdge 3 none, Cond.fieldLink RX2 28 "RangePropagator$Block" "edgeCount" "I", Cond.fieldLink RX2 34 "RangePropagator$Block" "branchX" "I", Cond.fieldLink RX2 40 "RangePropagator$Block" "relation" "I"]
def wsX0_makeNarrowings_r5 : List Cond := [Cond.fieldLink RX2 37 "RangePropagator$Block" "branchY" "I", Cond.methodLink RX2 57 yX7_refine, Cond.instanceMethod yX7_refine, Cond.selects RX7 yX7_refine yX7_refine, Cond.code yX7_refine cX7_refine 4 none, Cond.methodLink RX7 51 yX1_isTrue, Cond.static yX1_isTrue, Cond.code yX1_isTrue cX1_isTrue 3 (some .boolean), Cond.methodLink RX7 55 yX7_keepOrdered, Cond.instanceMethod yX7_keepOrdered, Cond.selects RX7 yX7_keepOrdered yX7_keepOrdered, Cond.code yX7_keepOrdered cX7_keepOrdered 4 none, Cond.methodLink RX7 59 yX7_keepEqual, Cond.instanceMethod yX7_keepEqual, Cond.selects RX7 yX7_keepEqual yX7_keepEqual, Cond.code yX7_keepEqual cX7_keepEqual 5 none, Cond.methodLink RX7 66 yX7_setRange, Cond.methodLink RX7 63 yX7_keepUnequal, Cond.instanceMethod yX7_keepUnequal, Cond.selects RX7 yX7_keepUnequal yX7_keepUnequal, Cond.code yX7_keepUnequal cX7_keepUnequal 3 none, Cond.methodLink RX7 41 yX7_isConstant, Cond.instanceMethod yX7_isConstant, Cond.selects RX7 yX7_isConstant yX7_isConstant]
def wsX0_makeNarrowings_r6 : List Cond := [Cond.code yX7_isConstant cX7_isConstant 2 (some .boolean), Cond.methodLink RX7 69 yX7_cutOff, Cond.instanceMethod yX7_cutOff, Cond.selects RX7 yX7_cutOff yX7_cutOff, Cond.code yX7_cutOff cX7_cutOff 3 none, Cond.methodLink RX2 60 yX1_oppositeOfSwapped, Cond.static yX1_oppositeOfSwapped, Cond.code yX1_oppositeOfSwapped cX1_oppositeOfSwapped 1 (some .int)]
def wsX0_makeNarrowings : List Cond := .code yX0_makeNarrowings cX0_makeNarrowings 5 none :: ((wsX0_makeNarrowings_r1 ++ (wsX0_makeNarrowings_r2 ++ (wsX0_makeNarrowings_r3 ++ (wsX0_makeNarrowings_r4 ++ (wsX0_makeNarrowings_r5 ++ wsX0_makeNarrowings_r6))))) ++ wsX50 ++ wsX00 ++ wsX40 ++ wsX70 ++ wsX20)
def wsX2_init : List Cond := .code yX2_init cX2_init 1 none :: ([.methodLink RX2 3 objectInit, .instanceMethod objectInit, .code objectInit ⟨#[0xb1]⟩ 1 none, .fieldLink RX2 9 "RangePropagator$Block" "statementCount" "I", .arrayClass .int, .fieldLink RX2 15 "RangePropagator$Block" "kinds" "[I", .fieldLink RX2 19 "RangePropagator$Block" "targets" "[I", .fieldLink RX2 22 "RangePropagator$Block" "firsts" "[I", .fieldLink RX2 25 "RangePropagator$Block" "seconds" "[I", .fieldLink RX2 28 "RangePropagator$Block" "edgeCount" "I", .fieldLink RX2 31 "RangePropagator$Block" "followers" "[I", .fieldLink RX2 34 "RangePropagator$Block" "branchX" "I", .fieldLink RX2 37 "RangePropagator$Block" "branchY" "I", .fieldLink RX2 40 "RangePropagator$Block" "relation" "I"] ++ wsX20)
def wsX2_append : List Cond := .code yX2_append cX2_append 6 (some .int) :: ([.fieldLink RX2 9 "RangePropagator$Block" "statementCount" "I", .fieldLink RX2 15 "RangePropagator$Block" "kinds" "[I", .fieldLink RX2 19 "RangePropagator$Block" "targets" "[I", .fieldLink RX2 22 "RangePropagator$Block" "firsts" "[I", .fieldLink RX2 25 "RangePropagator$Block" "seconds" "[I"] ++ wsX20)
def wsX2_endWithJump : List Cond := .code yX2_endWithJump cX2_endWithJump 2 none :: ([.fieldLink RX2 28 "RangePropagator$Block" "edgeCount" "I", .fieldLink RX2 31 "RangePropagator$Block" "followers" "[I"] ++ wsX20)
def wsX2_endWithBranch : List Cond := .code yX2_endWithBranch cX2_endWithBranch 6 none :: ([.fieldLink RX2 28 "RangePropagator$Block" "edgeCount" "I", .fieldLink RX2 34 "RangePropagator$Block" "branchX" "I", .fieldLink RX2 40 "RangePropagator$Block" "relation" "I", .fieldLink RX2 37 "RangePropagator$Block" "branchY" "I", .fieldLink RX2 31 "RangePropagator$Block" "followers" "[I"] ++ wsX20)
def wsX2_makeEmpty : List Cond := .code yX2_makeEmpty cX2_makeEmpty 1 none :: ([.fieldLink RX2 9 "RangePropagator$Block" "statementCount" "I", .fieldLink RX2 28 "RangePropagator$Block" "edgeCount" "I"] ++ wsX20)
def wsX3_init : List Cond := .code yX3_init cX3_init 1 none :: ([.methodLink RX3 3 objectInit, .instanceMethod objectInit, .code objectInit ⟨#[0xb1]⟩ 1 none, .arrayClass .int, .fieldLink RX3 9 "RangePropagator$Execution" "values" "[I", .fieldLink RX3 15 "RangePropagator$Execution" "stepBlocks" "[I", .fieldLink RX3 18 "RangePropagator$Execution" "stepValues" "[I", .fieldLink RX3 21 "RangePropagator$Execution" "stepCount" "I", .fieldLink RX3 25 "RangePropagator$Execution" "\x72" "J"] ++ wsX30)
def wsJ9_floorMod_f86c9 : List Cond := .code yJ9_floorMod_f86c9 cJ9_floorMod_f86c9 6 (some .long) :: ([])
def wsX3_choose : List Cond := .code yX3_choose cX3_choose 7 (some .int) :: ([.fieldLink RX3 25 "RangePropagator$Execution" "\x72" "J", .constantLong RX3 120 (6364136223846793005), .constantLong RX3 122 (1442695040888963407), .methodLink RX3 114 yJ9_floorMod_f86c9, .static yJ9_floorMod_f86c9, .initialized RJ9, .code yJ9_floorMod_f86c9 cJ9_floorMod_f86c9 6 (some .long)] ++ wsX30)
def wsX3_noteStep : List Cond := .code yX3_noteStep cX3_noteStep 3 none :: ([.fieldLink RX3 15 "RangePropagator$Execution" "stepBlocks" "[I", .fieldLink RX3 9 "RangePropagator$Execution" "values" "[I", .fieldLink RX3 18 "RangePropagator$Execution" "stepValues" "[I", .methodLink RX3 68 arraycopyName, .native arraycopyName, .static arraycopyName, .initialized "java/lang/System", .fieldLink RX3 21 "RangePropagator$Execution" "stepCount" "I"] ++ wsX30)
def wsX3_outcomeOf_r1 : List Cond := [Cond.fieldLink RX3 9 "RangePropagator$Execution" "values" "[I", Cond.methodLink RX3 43 yX3_choose, Cond.instanceMethod yX3_choose, Cond.selects RX3 yX3_choose yX3_choose, Cond.initialized RX3, Cond.code yX3_choose cX3_choose 7 (some .int), Cond.fieldLink RX3 25 "RangePropagator$Execution" "\x72" "J", Cond.constantLong RX3 120 (6364136223846793005), Cond.constantLong RX3 122 (1442695040888963407), Cond.methodLink RX3 114 yJ9_floorMod_f86c9, Cond.static yJ9_floorMod_f86c9, Cond.initialized RJ9, Cond.code yJ9_floorMod_f86c9 cJ9_floorMod_f86c9 6 (some .long), Cond.methodLink RX3 93 yX1_outcome, Cond.static yX1_outcome, Cond.initialized RX1, Cond.code yX1_outcome cX1_outcome 5 (some .int), Cond.methodLink RX1 9 Lib.Math.min.name, Cond.static Lib.Math.min.name, Cond.initialized "java/lang/Math", Cond.code Lib.Math.min.name Lib.Math.min.code 2 (some .int), Cond.methodLink RX1 15 Lib.Math.max.name, Cond.static Lib.Math.max.name, Cond.code Lib.Math.max.name Lib.Math.max.code 2 (some .int)]
def wsX3_outcomeOf_r2 : List Cond := [Cond.constantLong RX1 18 (-1000000000), Cond.constantLong RX1 20 (1000000000), Cond.methodLink RX1 22 Lib.MathLoose.min_long.x, Cond.static Lib.MathLoose.min_long.x, Cond.code Lib.MathLoose.min_long.x Lib.MathLoose.min_long.code 4 (some .long), Cond.methodLink RX1 25 Lib.MathLoose.max_long.x, Cond.static Lib.MathLoose.max_long.x, Cond.code Lib.MathLoose.max_long.x Lib.MathLoose.max_long.code 4 (some .long)]
def wsX3_outcomeOf : List Cond := .code yX3_outcomeOf cX3_outcomeOf 4 (some .int) :: ((wsX3_outcomeOf_r1 ++ wsX3_outcomeOf_r2) ++ wsX30)
def wsX3_perform_r1 : List Cond := [Cond.fieldLink RX3 74 "RangePropagator$Block" "statementCount" "I", Cond.fieldLink RX3 9 "RangePropagator$Execution" "values" "[I", Cond.fieldLink RX3 77 "RangePropagator$Block" "targets" "[I", Cond.fieldLink RX3 80 "RangePropagator$Block" "kinds" "[I", Cond.fieldLink RX3 83 "RangePropagator$Block" "firsts" "[I", Cond.fieldLink RX3 86 "RangePropagator$Block" "seconds" "[I", Cond.methodLink RX3 89 yX3_outcomeOf, Cond.instanceMethod yX3_outcomeOf, Cond.selects RX3 yX3_outcomeOf yX3_outcomeOf, Cond.initialized RX3, Cond.code yX3_outcomeOf cX3_outcomeOf 4 (some .int), Cond.methodLink RX3 43 yX3_choose, Cond.instanceMethod yX3_choose, Cond.selects RX3 yX3_choose yX3_choose, Cond.code yX3_choose cX3_choose 7 (some .int), Cond.fieldLink RX3 25 "RangePropagator$Execution" "\x72" "J", Cond.constantLong RX3 120 (6364136223846793005), Cond.constantLong RX3 122 (1442695040888963407), Cond.methodLink RX3 114 yJ9_floorMod_f86c9, Cond.static yJ9_floorMod_f86c9, Cond.initialized RJ9, Cond.code yJ9_floorMod_f86c9 cJ9_floorMod_f86c9 6 (some .long), Cond.methodLink RX3 93 yX1_outcome, Cond.static yX1_outcome]
def wsX3_perform_r2 : List Cond := [Cond.initialized RX1, Cond.code yX1_outcome cX1_outcome 5 (some .int), Cond.methodLink RX1 9 Lib.Math.min.name, Cond.static Lib.Math.min.name, Cond.initialized "java/lang/Math", Cond.code Lib.Math.min.name Lib.Math.min.code 2 (some .int), Cond.methodLink RX1 15 Lib.Math.max.name, Cond.static Lib.Math.max.name, Cond.code Lib.Math.max.name Lib.Math.max.code 2 (some .int), Cond.constantLong RX1 18 (-1000000000), Cond.constantLong RX1 20 (1000000000), Cond.methodLink RX1 22 Lib.MathLoose.min_long.x, Cond.static Lib.MathLoose.min_long.x, Cond.code Lib.MathLoose.min_long.x Lib.MathLoose.min_long.code 4 (some .long), Cond.methodLink RX1 25 Lib.MathLoose.max_long.x, Cond.static Lib.MathLoose.max_long.x, Cond.code Lib.MathLoose.max_long.x Lib.MathLoose.max_long.code 4 (some .long)]
def wsX3_perform : List Cond := .code yX3_perform cX3_perform 3 none :: ((wsX3_perform_r1 ++ wsX3_perform_r2) ++ wsX20 ++ wsX30)
def wsX3_follower : List Cond := .code yX3_follower cX3_follower 3 (some .int) :: ([.fieldLink RX3 59 "RangePropagator$Block" "edgeCount" "I", .fieldLink RX3 98 "RangePropagator$Block" "followers" "[I", .fieldLink RX3 9 "RangePropagator$Execution" "values" "[I", .fieldLink RX3 101 "RangePropagator$Block" "branchX" "I", .fieldLink RX3 104 "RangePropagator$Block" "relation" "I", .fieldLink RX3 107 "RangePropagator$Block" "branchY" "I", .methodLink RX3 110 yX1_isTrue, .static yX1_isTrue, .initialized RX1, .code yX1_isTrue cX1_isTrue 3 (some .boolean)] ++ wsX20 ++ wsX30)
def wsX3_execute_r1 : List Cond := [Cond.fieldLink RX3 25 "RangePropagator$Execution" "\x72" "J", Cond.fieldLink RX3 29 "RangePropagator$Program" "initial" "LRangePropagator$State;", Cond.fieldLink RX3 9 "RangePropagator$Execution" "values" "[I", Cond.fieldLink RX3 35 "RangePropagator$State" "low" "[I", Cond.fieldLink RX3 40 "RangePropagator$State" "high" "[I", Cond.fieldLink RX3 21 "RangePropagator$Execution" "stepCount" "I", Cond.fieldLink RX3 47 "RangePropagator$Program" "blocks" "[LRangePropagator$Block;", Cond.fieldLink RX3 59 "RangePropagator$Block" "edgeCount" "I", Cond.methodLink RX3 43 yX3_choose, Cond.instanceMethod yX3_choose, Cond.selects RX3 yX3_choose yX3_choose, Cond.initialized RX3, Cond.code yX3_choose cX3_choose 7 (some .int), Cond.constantLong RX3 120 (6364136223846793005), Cond.constantLong RX3 122 (1442695040888963407), Cond.methodLink RX3 114 yJ9_floorMod_f86c9, Cond.static yJ9_floorMod_f86c9, Cond.initialized RJ9, Cond.code yJ9_floorMod_f86c9 cJ9_floorMod_f86c9 6 (some .long), Cond.methodLink RX3 51 yX3_noteStep, Cond.instanceMethod yX3_noteStep, Cond.selects RX3 yX3_noteStep yX3_noteStep, Cond.code yX3_noteStep cX3_noteStep 3 none, Cond.fieldLink RX3 15 "RangePropagator$Execution" "stepBlocks" "[I"]
def wsX3_execute_r2 : List Cond := [Cond.fieldLink RX3 18 "RangePropagator$Execution" "stepValues" "[I", Cond.methodLink RX3 68 arraycopyName, Cond.native arraycopyName, Cond.static arraycopyName, Cond.initialized "java/lang/System", Cond.methodLink RX3 55 yX3_perform, Cond.instanceMethod yX3_perform, Cond.selects RX3 yX3_perform yX3_perform, Cond.code yX3_perform cX3_perform 3 none, Cond.fieldLink RX3 74 "RangePropagator$Block" "statementCount" "I", Cond.fieldLink RX3 77 "RangePropagator$Block" "targets" "[I", Cond.fieldLink RX3 80 "RangePropagator$Block" "kinds" "[I", Cond.fieldLink RX3 83 "RangePropagator$Block" "firsts" "[I", Cond.fieldLink RX3 86 "RangePropagator$Block" "seconds" "[I", Cond.methodLink RX3 89 yX3_outcomeOf, Cond.instanceMethod yX3_outcomeOf, Cond.selects RX3 yX3_outcomeOf yX3_outcomeOf, Cond.code yX3_outcomeOf cX3_outcomeOf 4 (some .int), Cond.methodLink RX3 93 yX1_outcome, Cond.static yX1_outcome, Cond.initialized RX1, Cond.code yX1_outcome cX1_outcome 5 (some .int), Cond.methodLink RX1 9 Lib.Math.min.name, Cond.static Lib.Math.min.name]
def wsX3_execute_r3 : List Cond := [Cond.initialized "java/lang/Math", Cond.code Lib.Math.min.name Lib.Math.min.code 2 (some .int), Cond.methodLink RX1 15 Lib.Math.max.name, Cond.static Lib.Math.max.name, Cond.code Lib.Math.max.name Lib.Math.max.code 2 (some .int), Cond.constantLong RX1 18 (-1000000000), Cond.constantLong RX1 20 (1000000000), Cond.methodLink RX1 22 Lib.MathLoose.min_long.x, Cond.static Lib.MathLoose.min_long.x, Cond.code Lib.MathLoose.min_long.x Lib.MathLoose.min_long.code 4 (some .long), Cond.methodLink RX1 25 Lib.MathLoose.max_long.x, Cond.static Lib.MathLoose.max_long.x, Cond.code Lib.MathLoose.max_long.x Lib.MathLoose.max_long.code 4 (some .long), Cond.methodLink RX3 64 yX3_follower, Cond.instanceMethod yX3_follower, Cond.selects RX3 yX3_follower yX3_follower, Cond.code yX3_follower cX3_follower 3 (some .int), Cond.fieldLink RX3 98 "RangePropagator$Block" "followers" "[I", Cond.fieldLink RX3 101 "RangePropagator$Block" "branchX" "I", Cond.fieldLink RX3 104 "RangePropagator$Block" "relation" "I", Cond.fieldLink RX3 107 "RangePropagator$Block" "branchY" "I", Cond.methodLink RX3 110 yX1_isTrue, Cond.static yX1_isTrue, Cond.code yX1_isTrue cX1_isTrue 3 (some .boolean)]
def wsX3_execute : List Cond := .code yX3_execute cX3_execute 9 none :: ((wsX3_execute_r1 ++ (wsX3_execute_r2 ++ wsX3_execute_r3)) ++ wsX30 ++ wsX50 ++ wsX70 ++ wsX20)
def wsX4_countDeadEdges : List Cond := .code yX4_countDeadEdges cX4_countDeadEdges 4 (some .int) :: ([.fieldLink RX4 12 "RangePropagator$Flow" "entryState" "LRangePropagator$State;", .fieldLink RX4 29 "RangePropagator$State" "isNone" "Z", .fieldLink RX4 21 "RangePropagator$Flow" "edgeStates" "[LRangePropagator$State;"] ++ wsX40 ++ wsX70)
def wsX5_init_r1 : List Cond := [Cond.methodLink RX5 3 objectInit, Cond.instanceMethod objectInit, Cond.code objectInit ⟨#[0xb1]⟩ 1 none, Cond.classLink RX5 9 RX2, Cond.fieldLink RX5 11 "RangePropagator$Program" "blocks" "[LRangePropagator$Block;", Cond.classLink RX5 17 RX7, Cond.instantiable RX7 3, Cond.initialized RX7, Cond.fieldLink RX5 20 "RangePropagator$Program" "initial" "LRangePropagator$State;", Cond.fieldLink RX5 24 "RangePropagator$Program" "count" "I", Cond.instantiable RX2 10, Cond.initialized RX2, Cond.fieldLink RX5 29 "RangePropagator$State" "isNone" "Z", Cond.instanceMethod yX7_init, Cond.code yX7_init cX7_init 1 none, Cond.methodLink RX7 3 objectInit, Cond.fieldLink RX7 9 "RangePropagator$State" "isNone" "Z", Cond.arrayClass .int, Cond.fieldLink RX7 15 "RangePropagator$State" "low" "[I", Cond.fieldLink RX7 19 "RangePropagator$State" "high" "[I", Cond.instanceMethod yX2_init, Cond.code yX2_init cX2_init 1 none, Cond.methodLink RX2 3 objectInit, Cond.fieldLink RX2 9 "RangePropagator$Block" "statementCount" "I"]
def wsX5_init_r2 : List Cond := [Cond.fieldLink RX2 15 "RangePropagator$Block" "kinds" "[I", Cond.fieldLink RX2 19 "RangePropagator$Block" "targets" "[I", Cond.fieldLink RX2 22 "RangePropagator$Block" "firsts" "[I", Cond.fieldLink RX2 25 "RangePropagator$Block" "seconds" "[I", Cond.fieldLink RX2 28 "RangePropagator$Block" "edgeCount" "I", Cond.fieldLink RX2 31 "RangePropagator$Block" "followers" "[I", Cond.fieldLink RX2 34 "RangePropagator$Block" "branchX" "I", Cond.fieldLink RX2 37 "RangePropagator$Block" "branchY" "I", Cond.fieldLink RX2 40 "RangePropagator$Block" "relation" "I"]
def wsX5_init : List Cond := .code yX5_init cX5_init 2 none :: ((wsX5_init_r1 ++ wsX5_init_r2) ++ wsX50 ++ wsX70 ++ wsX20)
def wsX6_init : List Cond := .code yX6_init cX6_init 1 none :: ([.methodLink RX6 3 objectInit, .instanceMethod objectInit, .code objectInit ⟨#[0xb1]⟩ 1 none, .fieldLink RX6 9 "RangePropagator$Settings" "delay" "I", .fieldLink RX6 15 "RangePropagator$Settings" "narrowings" "I", .fieldLink RX6 18 "RangePropagator$Settings" "thresholdCount" "I", .arrayClass .int, .fieldLink RX6 21 "RangePropagator$Settings" "thresholds" "[I"] ++ wsX60)
def wsX6_keepThreshold : List Cond := .code yX6_keepThreshold cX6_keepThreshold 3 none :: ([.fieldLink RX6 18 "RangePropagator$Settings" "thresholdCount" "I", .fieldLink RX6 21 "RangePropagator$Settings" "thresholds" "[I"] ++ wsX60)
def wsX7_countConstants : List Cond := .code yX7_countConstants cX7_countConstants 3 (some .int) :: ([.fieldLink RX7 9 "RangePropagator$State" "isNone" "Z", .methodLink RX7 41 yX7_isConstant, .instanceMethod yX7_isConstant, .selects RX7 yX7_isConstant yX7_isConstant, .initialized RX7, .code yX7_isConstant cX7_isConstant 2 (some .boolean), .fieldLink RX7 15 "RangePropagator$State" "low" "[I", .fieldLink RX7 19 "RangePropagator$State" "high" "[I"] ++ wsX70)
def wsX8_init_r1 : List Cond := [Cond.methodLink RX8 1 objectInit, Cond.instanceMethod objectInit, Cond.code objectInit ⟨#[0xb1]⟩ 1 none, Cond.classLink RX8 7 RX5, Cond.instantiable RX5 3, Cond.initialized RX5, Cond.fieldLink RX8 10 "RangePropagato\x72" "program" "LRangePropagator$Program;", Cond.classLink RX8 16 RX6, Cond.instantiable RX6 4, Cond.initialized RX6, Cond.fieldLink RX8 19 "RangePropagato\x72" "settings" "LRangePropagator$Settings;", Cond.classLink RX8 23 RX0, Cond.instantiable RX0 3, Cond.initialized RX0, Cond.fieldLink RX8 26 "RangePropagato\x72" "analysis" "LRangePropagator$Analysis;", Cond.classLink RX8 30 RX3, Cond.instantiable RX3 5, Cond.initialized RX3, Cond.fieldLink RX8 33 "RangePropagato\x72" "execution" "LRangePropagator$Execution;", Cond.fieldLink RX8 37 "RangePropagato\x72" "analysisStands" "Z", Cond.methodLink RX8 9 yX5_init, Cond.instanceMethod yX5_init, Cond.code yX5_init cX5_init 2 none, Cond.methodLink RX5 3 objectInit]
def wsX8_init_r2 : List Cond := [Cond.classLink RX5 9 RX2, Cond.fieldLink RX5 11 "RangePropagator$Program" "blocks" "[LRangePropagator$Block;", Cond.classLink RX5 17 RX7, Cond.instantiable RX7 3, Cond.initialized RX7, Cond.fieldLink RX5 20 "RangePropagator$Program" "initial" "LRangePropagator$State;", Cond.fieldLink RX5 24 "RangePropagator$Program" "count" "I", Cond.instantiable RX2 10, Cond.initialized RX2, Cond.fieldLink RX5 29 "RangePropagator$State" "isNone" "Z", Cond.instanceMethod yX7_init, Cond.code yX7_init cX7_init 1 none, Cond.methodLink RX7 3 objectInit, Cond.fieldLink RX7 9 "RangePropagator$State" "isNone" "Z", Cond.arrayClass .int, Cond.fieldLink RX7 15 "RangePropagator$State" "low" "[I", Cond.fieldLink RX7 19 "RangePropagator$State" "high" "[I", Cond.instanceMethod yX2_init, Cond.code yX2_init cX2_init 1 none, Cond.methodLink RX2 3 objectInit, Cond.fieldLink RX2 9 "RangePropagator$Block" "statementCount" "I", Cond.fieldLink RX2 15 "RangePropagator$Block" "kinds" "[I", Cond.fieldLink RX2 19 "RangePropagator$Block" "targets" "[I", Cond.fieldLink RX2 22 "RangePropagator$Block" "firsts" "[I"]
def wsX8_init_r3 : List Cond := [Cond.fieldLink RX2 25 "RangePropagator$Block" "seconds" "[I", Cond.fieldLink RX2 28 "RangePropagator$Block" "edgeCount" "I", Cond.fieldLink RX2 31 "RangePropagator$Block" "followers" "[I", Cond.fieldLink RX2 34 "RangePropagator$Block" "branchX" "I", Cond.fieldLink RX2 37 "RangePropagator$Block" "branchY" "I", Cond.fieldLink RX2 40 "RangePropagator$Block" "relation" "I", Cond.instanceMethod yX6_init, Cond.code yX6_init cX6_init 1 none, Cond.methodLink RX6 3 objectInit, Cond.fieldLink RX6 9 "RangePropagator$Settings" "delay" "I", Cond.fieldLink RX6 15 "RangePropagator$Settings" "narrowings" "I", Cond.fieldLink RX6 18 "RangePropagator$Settings" "thresholdCount" "I", Cond.fieldLink RX6 21 "RangePropagator$Settings" "thresholds" "[I", Cond.methodLink RX8 25 yX0_init, Cond.instanceMethod yX0_init, Cond.code yX0_init cX0_init 2 none, Cond.methodLink RX0 3 objectInit, Cond.classLink RX0 9 RX4, Cond.fieldLink RX0 11 "RangePropagator$Analysis" "flows" "[LRangePropagator$Flow;", Cond.classLink RX0 17 RX7, Cond.fieldLink RX0 20 "RangePropagator$Analysis" "incoming" "LRangePropagator$State;", Cond.fieldLink RX0 24 "RangePropagator$Analysis" "joined" "LRangePropagator$State;", Cond.instantiable RX4 4, Cond.initialized RX4]
def wsX8_init_r4 : List Cond := [Cond.methodLink RX0 27 yX4_init, Cond.instanceMethod yX4_init, Cond.code yX4_init cX4_init 2 none, Cond.methodLink RX4 3 objectInit, Cond.classLink RX4 9 RX7, Cond.fieldLink RX4 12 "RangePropagator$Flow" "entryState" "LRangePropagator$State;", Cond.fieldLink RX4 18 "RangePropagator$Flow" "exitState" "LRangePropagator$State;", Cond.fieldLink RX4 21 "RangePropagator$Flow" "edgeStates" "[LRangePropagator$State;", Cond.fieldLink RX4 25 "RangePropagator$Flow" "visitCount" "I", Cond.instanceMethod yX3_init, Cond.code yX3_init cX3_init 1 none, Cond.methodLink RX3 3 objectInit, Cond.fieldLink RX3 9 "RangePropagator$Execution" "values" "[I", Cond.fieldLink RX3 15 "RangePropagator$Execution" "stepBlocks" "[I", Cond.fieldLink RX3 18 "RangePropagator$Execution" "stepValues" "[I", Cond.fieldLink RX3 21 "RangePropagator$Execution" "stepCount" "I", Cond.fieldLink RX3 25 "RangePropagator$Execution" "\x72" "J"]
def wsX8_init : List Cond := .code yX8_init cX8_init 1 none :: ((wsX8_init_r1 ++ (wsX8_init_r2 ++ (wsX8_init_r3 ++ wsX8_init_r4))) ++ wsX50 ++ wsX80 ++ wsX60 ++ wsX00 ++ wsX30 ++ wsX70 ++ wsX20 ++ wsX40)
def wsX8_addBlock : List Cond := .code yX8_addBlock cX8_addBlock 1 (some .int) :: ([.classLink RX8 45 "java/lang/IllegalStateException", .initialized "java/lang/IllegalStateException", .fieldLink RX8 10 "RangePropagato\x72" "program" "LRangePropagator$Program;", .fieldLink RX8 41 "RangePropagator$Program" "count" "I", .fieldLink RX8 37 "RangePropagato\x72" "analysisStands" "Z"] ++ wsX80 ++ wsX50 ++ (vx_atS RX8 49 "java/lang/IllegalStateException" ["java/lang/RuntimeException", "java/lang/Exception"]).filter goodWord)
def wsX8_requireVariable : List Cond := .code yX8_requireVariable cX8_requireVariable 1 none :: ([.classLink RX8 171 "java/lang/IndexOutOfBoundsException", .initialized "java/lang/IndexOutOfBoundsException"] ++ (vx_atS RX8 175 "java/lang/IndexOutOfBoundsException" ["java/lang/RuntimeException", "java/lang/Exception"]).filter goodWord)
def wsX8_requireRange : List Cond := .code yX8_requireRange cX8_requireRange 2 none :: ([.classLink RX8 93 "java/lang/IllegalArgumentException", .initialized "java/lang/IllegalArgumentException", .constant RX8 126 (-1000000000), .constant RX8 127 (1000000000)] ++ (vx_atS RX8 97 "java/lang/IllegalArgumentException" ["java/lang/RuntimeException", "java/lang/Exception"]).filter goodWord)
def wsX8_setInitial_r1 : List Cond := [Cond.fieldLink RX8 37 "RangePropagato\x72" "analysisStands" "Z", Cond.fieldLink RX8 10 "RangePropagato\x72" "program" "LRangePropagator$Program;", Cond.fieldLink RX8 60 "RangePropagator$Program" "initial" "LRangePropagator$State;", Cond.fieldLink RX8 64 "RangePropagator$State" "low" "[I", Cond.fieldLink RX8 70 "RangePropagator$State" "high" "[I", Cond.methodLink RX8 52 yX8_requireVariable, Cond.static yX8_requireVariable, Cond.initialized RX8, Cond.code yX8_requireVariable cX8_requireVariable 1 none, Cond.classLink RX8 171 "java/lang/IndexOutOfBoundsException", Cond.initialized "java/lang/IndexOutOfBoundsException", Cond.methodLink RX8 56 yX8_requireRange, Cond.static yX8_requireRange, Cond.code yX8_requireRange cX8_requireRange 2 none, Cond.classLink RX8 93 "java/lang/IllegalArgumentException", Cond.initialized "java/lang/IllegalArgumentException", Cond.constant RX8 126 (-1000000000), Cond.constant RX8 127 (1000000000), Cond.methodLink RX8 73 yX7_setRange, Cond.instanceMethod yX7_setRange, Cond.selects RX7 yX7_setRange yX7_setRange, Cond.initialized RX7, Cond.code yX7_setRange cX7_setRange 4 none, Cond.fieldLink RX7 15 "RangePropagator$State" "low" "[I"]
def wsX8_setInitial_r2 : List Cond := [Cond.fieldLink RX7 19 "RangePropagator$State" "high" "[I"]
def wsX8_setInitial : List Cond := .code yX8_setInitial cX8_setInitial 6 (some .boolean) :: ((wsX8_setInitial_r1 ++ wsX8_setInitial_r2) ++ wsX80 ++ wsX50 ++ wsX70 ++ (vx_atS RX8 175 "java/lang/IndexOutOfBoundsException" ["java/lang/RuntimeException", "java/lang/Exception"]).filter goodWord ++ (vx_atS RX8 97 "java/lang/IllegalArgumentException" ["java/lang/RuntimeException", "java/lang/Exception"]).filter goodWord)
def wsX8_requireBlock : List Cond := .code yX8_requireBlock cX8_requireBlock 2 none :: ([.classLink RX8 171 "java/lang/IndexOutOfBoundsException", .initialized "java/lang/IndexOutOfBoundsException", .fieldLink RX8 10 "RangePropagato\x72" "program" "LRangePropagator$Program;", .fieldLink RX8 41 "RangePropagator$Program" "count" "I"] ++ wsX80 ++ wsX50 ++ (vx_atS RX8 175 "java/lang/IndexOutOfBoundsException" ["java/lang/RuntimeException", "java/lang/Exception"]).filter goodWord)
def wsX8_requireRoom : List Cond := .code yX8_requireRoom cX8_requireRoom 2 none :: ([.classLink RX8 45 "java/lang/IllegalStateException", .initialized "java/lang/IllegalStateException", .fieldLink RX8 10 "RangePropagato\x72" "program" "LRangePropagator$Program;", .fieldLink RX8 83 "RangePropagator$Program" "blocks" "[LRangePropagator$Block;", .fieldLink RX8 110 "RangePropagator$Block" "statementCount" "I"] ++ wsX80 ++ wsX50 ++ wsX20 ++ (vx_atS RX8 49 "java/lang/IllegalStateException" ["java/lang/RuntimeException", "java/lang/Exception"]).filter goodWord)
def wsX8_input_r1 : List Cond := [Cond.fieldLink RX8 37 "RangePropagato\x72" "analysisStands" "Z", Cond.fieldLink RX8 10 "RangePropagato\x72" "program" "LRangePropagator$Program;", Cond.fieldLink RX8 83 "RangePropagator$Program" "blocks" "[LRangePropagator$Block;", Cond.methodLink RX8 77 yX8_requireBlock, Cond.instanceMethod yX8_requireBlock, Cond.selects RX8 yX8_requireBlock yX8_requireBlock, Cond.initialized RX8, Cond.code yX8_requireBlock cX8_requireBlock 2 none, Cond.classLink RX8 171 "java/lang/IndexOutOfBoundsException", Cond.initialized "java/lang/IndexOutOfBoundsException", Cond.fieldLink RX8 41 "RangePropagator$Program" "count" "I", Cond.methodLink RX8 52 yX8_requireVariable, Cond.static yX8_requireVariable, Cond.code yX8_requireVariable cX8_requireVariable 1 none, Cond.methodLink RX8 56 yX8_requireRange, Cond.static yX8_requireRange, Cond.code yX8_requireRange cX8_requireRange 2 none, Cond.classLink RX8 93 "java/lang/IllegalArgumentException", Cond.initialized "java/lang/IllegalArgumentException", Cond.constant RX8 126 (-1000000000), Cond.constant RX8 127 (1000000000), Cond.methodLink RX8 80 yX8_requireRoom, Cond.instanceMethod yX8_requireRoom, Cond.selects RX8 yX8_requireRoom yX8_requireRoom]
def wsX8_input_r2 : List Cond := [Cond.code yX8_requireRoom cX8_requireRoom 2 none, Cond.classLink RX8 45 "java/lang/IllegalStateException", Cond.initialized "java/lang/IllegalStateException", Cond.fieldLink RX8 110 "RangePropagator$Block" "statementCount" "I", Cond.methodLink RX8 87 yX2_append, Cond.instanceMethod yX2_append, Cond.selects RX2 yX2_append yX2_append, Cond.initialized RX2, Cond.code yX2_append cX2_append 6 (some .int), Cond.fieldLink RX2 9 "RangePropagator$Block" "statementCount" "I", Cond.fieldLink RX2 15 "RangePropagator$Block" "kinds" "[I", Cond.fieldLink RX2 19 "RangePropagator$Block" "targets" "[I", Cond.fieldLink RX2 22 "RangePropagator$Block" "firsts" "[I", Cond.fieldLink RX2 25 "RangePropagator$Block" "seconds" "[I"]
def wsX8_input : List Cond := .code yX8_input cX8_input 5 (some .int) :: ((wsX8_input_r1 ++ wsX8_input_r2) ++ wsX80 ++ wsX50 ++ wsX20 ++ (vx_atS RX8 175 "java/lang/IndexOutOfBoundsException" ["java/lang/RuntimeException", "java/lang/Exception"]).filter goodWord ++ (vx_atS RX8 97 "java/lang/IllegalArgumentException" ["java/lang/RuntimeException", "java/lang/Exception"]).filter goodWord ++ (vx_atS RX8 49 "java/lang/IllegalStateException" ["java/lang/RuntimeException", "java/lang/Exception"]).filter goodWord)
def wsX8_compute_r1 : List Cond := [Cond.classLink RX8 93 "java/lang/IllegalArgumentException", Cond.initialized "java/lang/IllegalArgumentException", Cond.fieldLink RX8 37 "RangePropagato\x72" "analysisStands" "Z", Cond.fieldLink RX8 10 "RangePropagato\x72" "program" "LRangePropagator$Program;", Cond.fieldLink RX8 83 "RangePropagator$Program" "blocks" "[LRangePropagator$Block;", Cond.methodLink RX8 77 yX8_requireBlock, Cond.instanceMethod yX8_requireBlock, Cond.selects RX8 yX8_requireBlock yX8_requireBlock, Cond.initialized RX8, Cond.code yX8_requireBlock cX8_requireBlock 2 none, Cond.classLink RX8 171 "java/lang/IndexOutOfBoundsException", Cond.initialized "java/lang/IndexOutOfBoundsException", Cond.fieldLink RX8 41 "RangePropagator$Program" "count" "I", Cond.methodLink RX8 52 yX8_requireVariable, Cond.static yX8_requireVariable, Cond.code yX8_requireVariable cX8_requireVariable 1 none, Cond.methodLink RX8 80 yX8_requireRoom, Cond.instanceMethod yX8_requireRoom, Cond.selects RX8 yX8_requireRoom yX8_requireRoom, Cond.code yX8_requireRoom cX8_requireRoom 2 none, Cond.classLink RX8 45 "java/lang/IllegalStateException", Cond.initialized "java/lang/IllegalStateException", Cond.fieldLink RX8 110 "RangePropagator$Block" "statementCount" "I", Cond.methodLink RX8 87 yX2_append]
def wsX8_compute_r2 : List Cond := [Cond.instanceMethod yX2_append, Cond.selects RX2 yX2_append yX2_append, Cond.initialized RX2, Cond.code yX2_append cX2_append 6 (some .int), Cond.fieldLink RX2 9 "RangePropagator$Block" "statementCount" "I", Cond.fieldLink RX2 15 "RangePropagator$Block" "kinds" "[I", Cond.fieldLink RX2 19 "RangePropagator$Block" "targets" "[I", Cond.fieldLink RX2 22 "RangePropagator$Block" "firsts" "[I", Cond.fieldLink RX2 25 "RangePropagator$Block" "seconds" "[I"]
def wsX8_compute : List Cond := .code yX8_compute cX8_compute 6 (some .int) :: ((wsX8_compute_r1 ++ wsX8_compute_r2) ++ wsX80 ++ wsX50 ++ wsX20 ++ (vx_atS RX8 97 "java/lang/IllegalArgumentException" ["java/lang/RuntimeException", "java/lang/Exception"]).filter goodWord ++ (vx_atS RX8 175 "java/lang/IndexOutOfBoundsException" ["java/lang/RuntimeException", "java/lang/Exception"]).filter goodWord ++ (vx_atS RX8 49 "java/lang/IllegalStateException" ["java/lang/RuntimeException", "java/lang/Exception"]).filter goodWord)
def wsX8_jump : List Cond := .code yX8_jump cX8_jump 5 (some .int) :: ([.fieldLink RX8 37 "RangePropagato\x72" "analysisStands" "Z", .fieldLink RX8 10 "RangePropagato\x72" "program" "LRangePropagator$Program;", .fieldLink RX8 83 "RangePropagator$Program" "blocks" "[LRangePropagator$Block;", .fieldLink RX8 98 "RangePropagator$Block" "edgeCount" "I", .methodLink RX8 77 yX8_requireBlock, .instanceMethod yX8_requireBlock, .selects RX8 yX8_requireBlock yX8_requireBlock, .initialized RX8, .code yX8_requireBlock cX8_requireBlock 2 none, .classLink RX8 171 "java/lang/IndexOutOfBoundsException", .initialized "java/lang/IndexOutOfBoundsException", .fieldLink RX8 41 "RangePropagator$Program" "count" "I", .methodLink RX8 101 yX2_endWithJump, .instanceMethod yX2_endWithJump, .selects RX2 yX2_endWithJump yX2_endWithJump, .initialized RX2, .code yX2_endWithJump cX2_endWithJump 2 none, .fieldLink RX2 28 "RangePropagator$Block" "edgeCount" "I", .fieldLink RX2 31 "RangePropagator$Block" "followers" "[I"] ++ wsX80 ++ wsX50 ++ wsX20 ++ (vx_atS RX8 175 "java/lang/IndexOutOfBoundsException" ["java/lang/RuntimeException", "java/lang/Exception"]).filter goodWord)
def wsX8_branch_r1 : List Cond := [Cond.classLink RX8 93 "java/lang/IllegalArgumentException", Cond.initialized "java/lang/IllegalArgumentException", Cond.fieldLink RX8 37 "RangePropagato\x72" "analysisStands" "Z", Cond.fieldLink RX8 10 "RangePropagato\x72" "program" "LRangePropagator$Program;", Cond.fieldLink RX8 83 "RangePropagator$Program" "blocks" "[LRangePropagator$Block;", Cond.fieldLink RX8 98 "RangePropagator$Block" "edgeCount" "I", Cond.methodLink RX8 77 yX8_requireBlock, Cond.instanceMethod yX8_requireBlock, Cond.selects RX8 yX8_requireBlock yX8_requireBlock, Cond.initialized RX8, Cond.code yX8_requireBlock cX8_requireBlock 2 none, Cond.classLink RX8 171 "java/lang/IndexOutOfBoundsException", Cond.initialized "java/lang/IndexOutOfBoundsException", Cond.fieldLink RX8 41 "RangePropagator$Program" "count" "I", Cond.methodLink RX8 52 yX8_requireVariable, Cond.static yX8_requireVariable, Cond.code yX8_requireVariable cX8_requireVariable 1 none, Cond.methodLink RX8 106 yX2_endWithBranch, Cond.instanceMethod yX2_endWithBranch, Cond.selects RX2 yX2_endWithBranch yX2_endWithBranch, Cond.initialized RX2, Cond.code yX2_endWithBranch cX2_endWithBranch 6 none, Cond.fieldLink RX2 28 "RangePropagator$Block" "edgeCount" "I", Cond.fieldLink RX2 34 "RangePropagator$Block" "branchX" "I"]
def wsX8_branch_r2 : List Cond := [Cond.fieldLink RX2 40 "RangePropagator$Block" "relation" "I", Cond.fieldLink RX2 37 "RangePropagator$Block" "branchY" "I", Cond.fieldLink RX2 31 "RangePropagator$Block" "followers" "[I"]
def wsX8_branch : List Cond := .code yX8_branch cX8_branch 9 (some .int) :: ((wsX8_branch_r1 ++ wsX8_branch_r2) ++ wsX80 ++ wsX50 ++ wsX20 ++ (vx_atS RX8 97 "java/lang/IllegalArgumentException" ["java/lang/RuntimeException", "java/lang/Exception"]).filter goodWord ++ (vx_atS RX8 175 "java/lang/IndexOutOfBoundsException" ["java/lang/RuntimeException", "java/lang/Exception"]).filter goodWord)
def wsX8_clear : List Cond := .code yX8_clear cX8_clear 4 (some .int) :: ([.fieldLink RX8 37 "RangePropagato\x72" "analysisStands" "Z", .fieldLink RX8 10 "RangePropagato\x72" "program" "LRangePropagator$Program;", .fieldLink RX8 83 "RangePropagator$Program" "blocks" "[LRangePropagator$Block;", .fieldLink RX8 110 "RangePropagator$Block" "statementCount" "I", .methodLink RX8 77 yX8_requireBlock, .instanceMethod yX8_requireBlock, .selects RX8 yX8_requireBlock yX8_requireBlock, .initialized RX8, .code yX8_requireBlock cX8_requireBlock 2 none, .classLink RX8 171 "java/lang/IndexOutOfBoundsException", .initialized "java/lang/IndexOutOfBoundsException", .fieldLink RX8 41 "RangePropagator$Program" "count" "I", .methodLink RX8 113 yX2_makeEmpty, .instanceMethod yX2_makeEmpty, .selects RX2 yX2_makeEmpty yX2_makeEmpty, .initialized RX2, .code yX2_makeEmpty cX2_makeEmpty 1 none, .fieldLink RX2 9 "RangePropagator$Block" "statementCount" "I", .fieldLink RX2 28 "RangePropagator$Block" "edgeCount" "I"] ++ wsX80 ++ wsX50 ++ wsX20 ++ (vx_atS RX8 175 "java/lang/IndexOutOfBoundsException" ["java/lang/RuntimeException", "java/lang/Exception"]).filter goodWord)
def wsX8_blockCount : List Cond := .code yX8_blockCount cX8_blockCount 1 (some .int) :: ([.fieldLink RX8 10 "RangePropagato\x72" "program" "LRangePropagator$Program;", .fieldLink RX8 41 "RangePropagator$Program" "count" "I"] ++ wsX80 ++ wsX50)
def wsX8_setEffort : List Cond := .code yX8_setEffort cX8_setEffort 4 (some .boolean) :: ([.classLink RX8 93 "java/lang/IllegalArgumentException", .initialized "java/lang/IllegalArgumentException", .fieldLink RX8 37 "RangePropagato\x72" "analysisStands" "Z", .fieldLink RX8 19 "RangePropagato\x72" "settings" "LRangePropagator$Settings;", .fieldLink RX8 120 "RangePropagator$Settings" "delay" "I", .fieldLink RX8 123 "RangePropagator$Settings" "narrowings" "I"] ++ wsX80 ++ wsX60 ++ (vx_atS RX8 97 "java/lang/IllegalArgumentException" ["java/lang/RuntimeException", "java/lang/Exception"]).filter goodWord)
def wsX8_addThreshold : List Cond := .code yX8_addThreshold cX8_addThreshold 2 (some .int) :: ([.classLink RX8 93 "java/lang/IllegalArgumentException", .initialized "java/lang/IllegalArgumentException", .classLink RX8 45 "java/lang/IllegalStateException", .initialized "java/lang/IllegalStateException", .constant RX8 126 (-1000000000), .constant RX8 127 (1000000000), .fieldLink RX8 19 "RangePropagato\x72" "settings" "LRangePropagator$Settings;", .fieldLink RX8 130 "RangePropagator$Settings" "thresholdCount" "I", .fieldLink RX8 37 "RangePropagato\x72" "analysisStands" "Z", .methodLink RX8 135 yX6_keepThreshold, .instanceMethod yX6_keepThreshold, .selects RX6 yX6_keepThreshold yX6_keepThreshold, .initialized RX6, .code yX6_keepThreshold cX6_keepThreshold 3 none, .fieldLink RX6 18 "RangePropagator$Settings" "thresholdCount" "I", .fieldLink RX6 21 "RangePropagator$Settings" "thresholds" "[I"] ++ wsX80 ++ wsX60 ++ (vx_atS RX8 97 "java/lang/IllegalArgumentException" ["java/lang/RuntimeException", "java/lang/Exception"]).filter goodWord ++ (vx_atS RX8 49 "java/lang/IllegalStateException" ["java/lang/RuntimeException", "java/lang/Exception"]).filter goodWord)
def wsX8_analyze_r1 : List Cond := [Cond.fieldLink RX8 26 "RangePropagato\x72" "analysis" "LRangePropagator$Analysis;", Cond.fieldLink RX8 10 "RangePropagato\x72" "program" "LRangePropagator$Program;", Cond.fieldLink RX8 19 "RangePropagato\x72" "settings" "LRangePropagator$Settings;", Cond.fieldLink RX8 123 "RangePropagator$Settings" "narrowings" "I", Cond.fieldLink RX8 37 "RangePropagato\x72" "analysisStands" "Z", Cond.methodLink RX8 138 yX0_forget, Cond.instanceMethod yX0_forget, Cond.selects RX0 yX0_forget yX0_forget, Cond.initialized RX0, Cond.code yX0_forget cX0_forget 2 none, Cond.fieldLink RX0 11 "RangePropagator$Analysis" "flows" "[LRangePropagator$Flow;", Cond.methodLink RX0 28 yX4_makeNone, Cond.instanceMethod yX4_makeNone, Cond.selects RX4 yX4_makeNone yX4_makeNone, Cond.initialized RX4, Cond.code yX4_makeNone cX4_makeNone 2 none, Cond.fieldLink RX4 25 "RangePropagator$Flow" "visitCount" "I", Cond.fieldLink RX4 12 "RangePropagator$Flow" "entryState" "LRangePropagator$State;", Cond.fieldLink RX4 29 "RangePropagator$State" "isNone" "Z", Cond.fieldLink RX4 18 "RangePropagator$Flow" "exitState" "LRangePropagator$State;", Cond.fieldLink RX4 21 "RangePropagator$Flow" "edgeStates" "[LRangePropagator$State;", Cond.methodLink RX8 141 yX0_makeRounds, Cond.instanceMethod yX0_makeRounds, Cond.selects RX0 yX0_makeRounds yX0_makeRounds]
def wsX8_analyze_r2 : List Cond := [Cond.code yX0_makeRounds cX0_makeRounds 6 (some .int), Cond.constant RX0 31 (1000000), Cond.fieldLink RX0 32 "RangePropagator$Program" "count" "I", Cond.methodLink RX0 38 yX0_lookAt, Cond.instanceMethod yX0_lookAt, Cond.selects RX0 yX0_lookAt yX0_lookAt, Cond.code yX0_lookAt cX0_lookAt 5 (some .boolean), Cond.fieldLink RX0 20 "RangePropagator$Analysis" "incoming" "LRangePropagator$State;", Cond.fieldLink RX0 49 "RangePropagator$State" "isNone" "Z", Cond.fieldLink RX0 24 "RangePropagator$Analysis" "joined" "LRangePropagator$State;", Cond.fieldLink RX0 53 "RangePropagator$Flow" "entryState" "LRangePropagator$State;", Cond.fieldLink RX0 63 "RangePropagator$Flow" "visitCount" "I", Cond.fieldLink RX0 66 "RangePropagator$Settings" "delay" "I", Cond.fieldLink RX0 79 "RangePropagator$Program" "blocks" "[LRangePropagator$Block;", Cond.methodLink RX0 46 yX0_gatherIncoming, Cond.instanceMethod yX0_gatherIncoming, Cond.selects RX0 yX0_gatherIncoming yX0_gatherIncoming, Cond.code yX0_gatherIncoming cX0_gatherIncoming 6 none, Cond.fieldLink RX0 90 "RangePropagator$Program" "initial" "LRangePropagator$State;", Cond.fieldLink RX0 93 "RangePropagator$Block" "edgeCount" "I", Cond.fieldLink RX0 98 "RangePropagator$Block" "followers" "[I", Cond.fieldLink RX0 102 "RangePropagator$Flow" "edgeStates" "[LRangePropagator$State;", Cond.methodLink RX0 60 yX7_join, Cond.instanceMethod yX7_join]
def wsX8_analyze_r3 : List Cond := [Cond.selects RX7 yX7_join yX7_join, Cond.initialized RX7, Cond.code yX7_join cX7_join 3 none, Cond.fieldLink RX7 9 "RangePropagator$State" "isNone" "Z", Cond.fieldLink RX7 15 "RangePropagator$State" "low" "[I", Cond.methodLink RX7 32 Lib.Math.min.name, Cond.static Lib.Math.min.name, Cond.initialized "java/lang/Math", Cond.code Lib.Math.min.name Lib.Math.min.code 2 (some .int), Cond.fieldLink RX7 19 "RangePropagator$State" "high" "[I", Cond.methodLink RX7 38 Lib.Math.max.name, Cond.static Lib.Math.max.name, Cond.code Lib.Math.max.name Lib.Math.max.code 2 (some .int), Cond.methodLink RX7 28 yX7_become, Cond.instanceMethod yX7_become, Cond.selects RX7 yX7_become yX7_become, Cond.code yX7_become cX7_become 2 none, Cond.methodLink RX7 22 arraycopyName, Cond.native arraycopyName, Cond.static arraycopyName, Cond.initialized "java/lang/System", Cond.methodLink RX0 56 yX7_become, Cond.methodLink RX0 71 yX6_widen, Cond.instanceMethod yX6_widen]
def wsX8_analyze_r4 : List Cond := [Cond.selects RX6 yX6_widen yX6_widen, Cond.initialized RX6, Cond.code yX6_widen cX6_widen 4 none, Cond.fieldLink RX6 25 "RangePropagator$State" "low" "[I", Cond.fieldLink RX6 34 "RangePropagator$State" "high" "[I", Cond.methodLink RX6 30 yX6_greatestUpTo, Cond.instanceMethod yX6_greatestUpTo, Cond.selects RX6 yX6_greatestUpTo yX6_greatestUpTo, Cond.code yX6_greatestUpTo cX6_greatestUpTo 4 (some .int), Cond.constant RX6 40 (-1000000000), Cond.fieldLink RX6 18 "RangePropagator$Settings" "thresholdCount" "I", Cond.fieldLink RX6 21 "RangePropagator$Settings" "thresholds" "[I", Cond.methodLink RX6 37 yX6_smallestFrom, Cond.instanceMethod yX6_smallestFrom, Cond.selects RX6 yX6_smallestFrom yX6_smallestFrom, Cond.code yX6_smallestFrom cX6_smallestFrom 4 (some .int), Cond.constant RX6 41 (1000000000), Cond.methodLink RX0 75 yX7_differsFrom, Cond.instanceMethod yX7_differsFrom, Cond.selects RX7 yX7_differsFrom yX7_differsFrom, Cond.code yX7_differsFrom cX7_differsFrom 3 (some .boolean), Cond.methodLink RX0 83 yX4_makeAnew, Cond.instanceMethod yX4_makeAnew, Cond.selects RX4 yX4_makeAnew yX4_makeAnew]
def wsX8_analyze_r5 : List Cond := [Cond.code yX4_makeAnew cX4_makeAnew 3 none, Cond.fieldLink RX4 42 "RangePropagator$Block" "edgeCount" "I", Cond.methodLink RX4 33 yX7_become, Cond.methodLink RX4 37 yX2_applyTo, Cond.instanceMethod yX2_applyTo, Cond.selects RX2 yX2_applyTo yX2_applyTo, Cond.initialized RX2, Cond.code yX2_applyTo cX2_applyTo 3 none, Cond.fieldLink RX2 43 "RangePropagator$State" "isNone" "Z", Cond.fieldLink RX2 9 "RangePropagator$Block" "statementCount" "I", Cond.fieldLink RX2 15 "RangePropagator$Block" "kinds" "[I", Cond.fieldLink RX2 19 "RangePropagator$Block" "targets" "[I", Cond.fieldLink RX2 22 "RangePropagator$Block" "firsts" "[I", Cond.fieldLink RX2 25 "RangePropagator$Block" "seconds" "[I", Cond.methodLink RX2 49 yX7_setRange, Cond.instanceMethod yX7_setRange, Cond.selects RX7 yX7_setRange yX7_setRange, Cond.code yX7_setRange cX7_setRange 4 none, Cond.methodLink RX2 53 yX7_assign, Cond.instanceMethod yX7_assign, Cond.selects RX7 yX7_assign yX7_assign, Cond.code yX7_assign cX7_assign 9 none, Cond.methodLink RX7 45 yX1_outcome, Cond.static yX1_outcome]
def wsX8_analyze_r6 : List Cond := [Cond.initialized RX1, Cond.code yX1_outcome cX1_outcome 5 (some .int), Cond.methodLink RX1 9 Lib.Math.min.name, Cond.methodLink RX1 15 Lib.Math.max.name, Cond.constantLong RX1 18 (-1000000000), Cond.constantLong RX1 20 (1000000000), Cond.methodLink RX1 22 Lib.MathLoose.min_long.x, Cond.static Lib.MathLoose.min_long.x, Cond.code Lib.MathLoose.min_long.x Lib.MathLoose.min_long.code 4 (some .long), Cond.methodLink RX1 25 Lib.MathLoose.max_long.x, Cond.static Lib.MathLoose.max_long.x, Cond.code Lib.MathLoose.max_long.x Lib.MathLoose.max_long.code 4 (some .long), Cond.methodLink RX4 45 yX2_refineForEdge, Cond.instanceMethod yX2_refineForEdge, Cond.selects RX2 yX2_refineForEdge yX2_refineForEdge, Cond.code yX2_refineForEdge cX2_refineForEdge 3 none, Cond.fieldLink RX2 28 "RangePropagator$Block" "edgeCount" "I", Cond.fieldLink RX2 34 "RangePropagator$Block" "branchX" "I", Cond.fieldLink RX2 40 "RangePropagator$Block" "relation" "I", Cond.fieldLink RX2 37 "RangePropagator$Block" "branchY" "I", Cond.methodLink RX2 57 yX7_refine, Cond.instanceMethod yX7_refine, Cond.selects RX7 yX7_refine yX7_refine, Cond.code yX7_refine cX7_refine 4 none]
def wsX8_analyze_r7 : List Cond := [Cond.methodLink RX7 51 yX1_isTrue, Cond.static yX1_isTrue, Cond.code yX1_isTrue cX1_isTrue 3 (some .boolean), Cond.methodLink RX7 55 yX7_keepOrdered, Cond.instanceMethod yX7_keepOrdered, Cond.selects RX7 yX7_keepOrdered yX7_keepOrdered, Cond.code yX7_keepOrdered cX7_keepOrdered 4 none, Cond.methodLink RX7 59 yX7_keepEqual, Cond.instanceMethod yX7_keepEqual, Cond.selects RX7 yX7_keepEqual yX7_keepEqual, Cond.code yX7_keepEqual cX7_keepEqual 5 none, Cond.methodLink RX7 66 yX7_setRange, Cond.methodLink RX7 63 yX7_keepUnequal, Cond.instanceMethod yX7_keepUnequal, Cond.selects RX7 yX7_keepUnequal yX7_keepUnequal, Cond.code yX7_keepUnequal cX7_keepUnequal 3 none, Cond.methodLink RX7 41 yX7_isConstant, Cond.instanceMethod yX7_isConstant, Cond.selects RX7 yX7_isConstant yX7_isConstant, Cond.code yX7_isConstant cX7_isConstant 2 (some .boolean), Cond.methodLink RX7 69 yX7_cutOff, Cond.instanceMethod yX7_cutOff, Cond.selects RX7 yX7_cutOff yX7_cutOff, Cond.code yX7_cutOff cX7_cutOff 3 none]
def wsX8_analyze_r8 : List Cond := [Cond.methodLink RX2 60 yX1_oppositeOfSwapped, Cond.static yX1_oppositeOfSwapped, Cond.code yX1_oppositeOfSwapped cX1_oppositeOfSwapped 1 (some .int), Cond.methodLink RX8 145 yX0_makeNarrowings, Cond.instanceMethod yX0_makeNarrowings, Cond.selects RX0 yX0_makeNarrowings yX0_makeNarrowings, Cond.code yX0_makeNarrowings cX0_makeNarrowings 5 none, Cond.methodLink RX0 42 yX0_narrow, Cond.instanceMethod yX0_narrow, Cond.selects RX0 yX0_narrow yX0_narrow, Cond.code yX0_narrow cX0_narrow 4 none, Cond.methodLink RX0 87 yX7_narrowTo, Cond.instanceMethod yX7_narrowTo, Cond.selects RX7 yX7_narrowTo yX7_narrowTo, Cond.code yX7_narrowTo cX7_narrowTo 3 none]
def wsX8_analyze : List Cond := .code yX8_analyze cX8_analyze 2 (some .int) :: ((wsX8_analyze_r1 ++ (wsX8_analyze_r2 ++ (wsX8_analyze_r3 ++ (wsX8_analyze_r4 ++ (wsX8_analyze_r5 ++ (wsX8_analyze_r6 ++ (wsX8_analyze_r7 ++ wsX8_analyze_r8))))))) ++ wsX80 ++ wsX60 ++ wsX00 ++ wsX40 ++ wsX70 ++ wsX50 ++ wsX20)
def wsX8_isAnalyzed : List Cond := .code yX8_isAnalyzed cX8_isAnalyzed 1 (some .boolean) :: ([.fieldLink RX8 37 "RangePropagato\x72" "analysisStands" "Z"] ++ wsX80)
def wsX8_requireAnalysis : List Cond := .code yX8_requireAnalysis cX8_requireAnalysis 1 none :: ([.classLink RX8 45 "java/lang/IllegalStateException", .initialized "java/lang/IllegalStateException", .fieldLink RX8 37 "RangePropagato\x72" "analysisStands" "Z"] ++ wsX80 ++ (vx_atS RX8 49 "java/lang/IllegalStateException" ["java/lang/RuntimeException", "java/lang/Exception"]).filter goodWord)
def wsX8_isReachable : List Cond := .code yX8_isReachable cX8_isReachable 2 (some .boolean) :: ([.fieldLink RX8 26 "RangePropagato\x72" "analysis" "LRangePropagator$Analysis;", .fieldLink RX8 152 "RangePropagator$Analysis" "flows" "[LRangePropagator$Flow;", .fieldLink RX8 156 "RangePropagator$Flow" "entryState" "LRangePropagator$State;", .fieldLink RX8 161 "RangePropagator$State" "isNone" "Z", .methodLink RX8 149 yX8_requireAnalysis, .instanceMethod yX8_requireAnalysis, .selects RX8 yX8_requireAnalysis yX8_requireAnalysis, .initialized RX8, .code yX8_requireAnalysis cX8_requireAnalysis 1 none, .classLink RX8 45 "java/lang/IllegalStateException", .initialized "java/lang/IllegalStateException", .fieldLink RX8 37 "RangePropagato\x72" "analysisStands" "Z", .methodLink RX8 77 yX8_requireBlock, .instanceMethod yX8_requireBlock, .selects RX8 yX8_requireBlock yX8_requireBlock, .code yX8_requireBlock cX8_requireBlock 2 none, .classLink RX8 171 "java/lang/IndexOutOfBoundsException", .initialized "java/lang/IndexOutOfBoundsException", .fieldLink RX8 10 "RangePropagato\x72" "program" "LRangePropagator$Program;", .fieldLink RX8 41 "RangePropagator$Program" "count" "I"] ++ wsX80 ++ wsX00 ++ wsX40 ++ wsX70 ++ wsX50 ++ (vx_atS RX8 49 "java/lang/IllegalStateException" ["java/lang/RuntimeException", "java/lang/Exception"]).filter goodWord ++ (vx_atS RX8 175 "java/lang/IndexOutOfBoundsException" ["java/lang/RuntimeException", "java/lang/Exception"]).filter goodWord)
def wsX8_endOfRange : List Cond := .code yX8_endOfRange cX8_endOfRange 3 (some .int) :: ([.classLink RX8 227 "java/util/NoSuchElementException", .initialized "java/util/NoSuchElementException", .fieldLink RX8 161 "RangePropagator$State" "isNone" "Z", .fieldLink RX8 70 "RangePropagator$State" "high" "[I", .fieldLink RX8 64 "RangePropagator$State" "low" "[I"] ++ wsX70 ++ nxA.filter goodWord)
def wsX8_entry_r1 : List Cond := [Cond.fieldLink RX8 26 "RangePropagato\x72" "analysis" "LRangePropagator$Analysis;", Cond.fieldLink RX8 152 "RangePropagator$Analysis" "flows" "[LRangePropagator$Flow;", Cond.fieldLink RX8 156 "RangePropagator$Flow" "entryState" "LRangePropagator$State;", Cond.methodLink RX8 149 yX8_requireAnalysis, Cond.instanceMethod yX8_requireAnalysis, Cond.selects RX8 yX8_requireAnalysis yX8_requireAnalysis, Cond.initialized RX8, Cond.code yX8_requireAnalysis cX8_requireAnalysis 1 none, Cond.classLink RX8 45 "java/lang/IllegalStateException", Cond.initialized "java/lang/IllegalStateException", Cond.fieldLink RX8 37 "RangePropagato\x72" "analysisStands" "Z", Cond.methodLink RX8 77 yX8_requireBlock, Cond.instanceMethod yX8_requireBlock, Cond.selects RX8 yX8_requireBlock yX8_requireBlock, Cond.code yX8_requireBlock cX8_requireBlock 2 none, Cond.classLink RX8 171 "java/lang/IndexOutOfBoundsException", Cond.initialized "java/lang/IndexOutOfBoundsException", Cond.fieldLink RX8 10 "RangePropagato\x72" "program" "LRangePropagator$Program;", Cond.fieldLink RX8 41 "RangePropagator$Program" "count" "I", Cond.methodLink RX8 52 yX8_requireVariable, Cond.static yX8_requireVariable, Cond.code yX8_requireVariable cX8_requireVariable 1 none, Cond.methodLink RX8 164 yX8_endOfRange, Cond.static yX8_endOfRange]
def wsX8_entry_r2 : List Cond := [Cond.code yX8_endOfRange cX8_endOfRange 3 (some .int), Cond.classLink RX8 227 "java/util/NoSuchElementException", Cond.initialized "java/util/NoSuchElementException", Cond.fieldLink RX8 161 "RangePropagator$State" "isNone" "Z", Cond.fieldLink RX8 70 "RangePropagator$State" "high" "[I", Cond.fieldLink RX8 64 "RangePropagator$State" "low" "[I"]
def wsX8_entry : List Cond := .code yX8_entry cX8_entry 4 (some .int) :: ((wsX8_entry_r1 ++ wsX8_entry_r2) ++ wsX80 ++ wsX00 ++ wsX40 ++ wsX50 ++ wsX70 ++ (vx_atS RX8 49 "java/lang/IllegalStateException" ["java/lang/RuntimeException", "java/lang/Exception"]).filter goodWord ++ (vx_atS RX8 175 "java/lang/IndexOutOfBoundsException" ["java/lang/RuntimeException", "java/lang/Exception"]).filter goodWord ++ nxA.filter goodWord)
def wsX8_exit_r1 : List Cond := [Cond.fieldLink RX8 26 "RangePropagato\x72" "analysis" "LRangePropagator$Analysis;", Cond.fieldLink RX8 152 "RangePropagator$Analysis" "flows" "[LRangePropagator$Flow;", Cond.fieldLink RX8 168 "RangePropagator$Flow" "exitState" "LRangePropagator$State;", Cond.methodLink RX8 149 yX8_requireAnalysis, Cond.instanceMethod yX8_requireAnalysis, Cond.selects RX8 yX8_requireAnalysis yX8_requireAnalysis, Cond.initialized RX8, Cond.code yX8_requireAnalysis cX8_requireAnalysis 1 none, Cond.classLink RX8 45 "java/lang/IllegalStateException", Cond.initialized "java/lang/IllegalStateException", Cond.fieldLink RX8 37 "RangePropagato\x72" "analysisStands" "Z", Cond.methodLink RX8 77 yX8_requireBlock, Cond.instanceMethod yX8_requireBlock, Cond.selects RX8 yX8_requireBlock yX8_requireBlock, Cond.code yX8_requireBlock cX8_requireBlock 2 none, Cond.classLink RX8 171 "java/lang/IndexOutOfBoundsException", Cond.initialized "java/lang/IndexOutOfBoundsException", Cond.fieldLink RX8 10 "RangePropagato\x72" "program" "LRangePropagator$Program;", Cond.fieldLink RX8 41 "RangePropagator$Program" "count" "I", Cond.methodLink RX8 52 yX8_requireVariable, Cond.static yX8_requireVariable, Cond.code yX8_requireVariable cX8_requireVariable 1 none, Cond.methodLink RX8 164 yX8_endOfRange, Cond.static yX8_endOfRange]
def wsX8_exit_r2 : List Cond := [Cond.code yX8_endOfRange cX8_endOfRange 3 (some .int), Cond.classLink RX8 227 "java/util/NoSuchElementException", Cond.initialized "java/util/NoSuchElementException", Cond.fieldLink RX8 161 "RangePropagator$State" "isNone" "Z", Cond.fieldLink RX8 70 "RangePropagator$State" "high" "[I", Cond.fieldLink RX8 64 "RangePropagator$State" "low" "[I"]
def wsX8_exit : List Cond := .code yX8_exit cX8_exit 4 (some .int) :: ((wsX8_exit_r1 ++ wsX8_exit_r2) ++ wsX80 ++ wsX00 ++ wsX40 ++ wsX50 ++ wsX70 ++ (vx_atS RX8 49 "java/lang/IllegalStateException" ["java/lang/RuntimeException", "java/lang/Exception"]).filter goodWord ++ (vx_atS RX8 175 "java/lang/IndexOutOfBoundsException" ["java/lang/RuntimeException", "java/lang/Exception"]).filter goodWord ++ nxA.filter goodWord)
def wsX8_isDead : List Cond := .code yX8_isDead cX8_isDead 3 (some .boolean) :: ([.classLink RX8 171 "java/lang/IndexOutOfBoundsException", .initialized "java/lang/IndexOutOfBoundsException", .fieldLink RX8 10 "RangePropagato\x72" "program" "LRangePropagator$Program;", .fieldLink RX8 83 "RangePropagator$Program" "blocks" "[LRangePropagator$Block;", .fieldLink RX8 98 "RangePropagator$Block" "edgeCount" "I", .fieldLink RX8 26 "RangePropagato\x72" "analysis" "LRangePropagator$Analysis;", .fieldLink RX8 152 "RangePropagator$Analysis" "flows" "[LRangePropagator$Flow;", .fieldLink RX8 176 "RangePropagator$Flow" "edgeStates" "[LRangePropagator$State;", .fieldLink RX8 161 "RangePropagator$State" "isNone" "Z", .methodLink RX8 149 yX8_requireAnalysis, .instanceMethod yX8_requireAnalysis, .selects RX8 yX8_requireAnalysis yX8_requireAnalysis, .initialized RX8, .code yX8_requireAnalysis cX8_requireAnalysis 1 none, .classLink RX8 45 "java/lang/IllegalStateException", .initialized "java/lang/IllegalStateException", .fieldLink RX8 37 "RangePropagato\x72" "analysisStands" "Z", .methodLink RX8 77 yX8_requireBlock, .instanceMethod yX8_requireBlock, .selects RX8 yX8_requireBlock yX8_requireBlock, .code yX8_requireBlock cX8_requireBlock 2 none, .fieldLink RX8 41 "RangePropagator$Program" "count" "I"] ++ wsX80 ++ wsX50 ++ wsX20 ++ wsX00 ++ wsX40 ++ wsX70 ++ (vx_atS RX8 175 "java/lang/IndexOutOfBoundsException" ["java/lang/RuntimeException", "java/lang/Exception"]).filter goodWord ++ (vx_atS RX8 49 "java/lang/IllegalStateException" ["java/lang/RuntimeException", "java/lang/Exception"]).filter goodWord)
def wsX8_deadEdges : List Cond := .code yX8_deadEdges cX8_deadEdges 3 (some .int) :: ([.fieldLink RX8 10 "RangePropagato\x72" "program" "LRangePropagator$Program;", .fieldLink RX8 41 "RangePropagator$Program" "count" "I", .fieldLink RX8 26 "RangePropagato\x72" "analysis" "LRangePropagator$Analysis;", .fieldLink RX8 152 "RangePropagator$Analysis" "flows" "[LRangePropagator$Flow;", .fieldLink RX8 83 "RangePropagator$Program" "blocks" "[LRangePropagator$Block;", .fieldLink RX8 98 "RangePropagator$Block" "edgeCount" "I", .methodLink RX8 149 yX8_requireAnalysis, .instanceMethod yX8_requireAnalysis, .selects RX8 yX8_requireAnalysis yX8_requireAnalysis, .initialized RX8, .code yX8_requireAnalysis cX8_requireAnalysis 1 none, .classLink RX8 45 "java/lang/IllegalStateException", .initialized "java/lang/IllegalStateException", .fieldLink RX8 37 "RangePropagato\x72" "analysisStands" "Z", .methodLink RX8 180 yX4_countDeadEdges, .instanceMethod yX4_countDeadEdges, .selects RX4 yX4_countDeadEdges yX4_countDeadEdges, .initialized RX4, .code yX4_countDeadEdges cX4_countDeadEdges 4 (some .int), .fieldLink RX4 12 "RangePropagator$Flow" "entryState" "LRangePropagator$State;", .fieldLink RX4 29 "RangePropagator$State" "isNone" "Z", .fieldLink RX4 21 "RangePropagator$Flow" "edgeStates" "[LRangePropagator$State;"] ++ wsX80 ++ wsX50 ++ wsX00 ++ wsX20 ++ wsX40 ++ wsX70 ++ (vx_atS RX8 49 "java/lang/IllegalStateException" ["java/lang/RuntimeException", "java/lang/Exception"]).filter goodWord)
def wsX8_constants_r1 : List Cond := [Cond.fieldLink RX8 26 "RangePropagato\x72" "analysis" "LRangePropagator$Analysis;", Cond.fieldLink RX8 152 "RangePropagator$Analysis" "flows" "[LRangePropagator$Flow;", Cond.fieldLink RX8 168 "RangePropagator$Flow" "exitState" "LRangePropagator$State;", Cond.methodLink RX8 149 yX8_requireAnalysis, Cond.instanceMethod yX8_requireAnalysis, Cond.selects RX8 yX8_requireAnalysis yX8_requireAnalysis, Cond.initialized RX8, Cond.code yX8_requireAnalysis cX8_requireAnalysis 1 none, Cond.classLink RX8 45 "java/lang/IllegalStateException", Cond.initialized "java/lang/IllegalStateException", Cond.fieldLink RX8 37 "RangePropagato\x72" "analysisStands" "Z", Cond.methodLink RX8 77 yX8_requireBlock, Cond.instanceMethod yX8_requireBlock, Cond.selects RX8 yX8_requireBlock yX8_requireBlock, Cond.code yX8_requireBlock cX8_requireBlock 2 none, Cond.classLink RX8 171 "java/lang/IndexOutOfBoundsException", Cond.initialized "java/lang/IndexOutOfBoundsException", Cond.fieldLink RX8 10 "RangePropagato\x72" "program" "LRangePropagator$Program;", Cond.fieldLink RX8 41 "RangePropagator$Program" "count" "I", Cond.methodLink RX8 184 yX7_countConstants, Cond.instanceMethod yX7_countConstants, Cond.selects RX7 yX7_countConstants yX7_countConstants, Cond.initialized RX7, Cond.code yX7_countConstants cX7_countConstants 3 (some .int)]
def wsX8_constants_r2 : List Cond := [Cond.fieldLink RX7 9 "RangePropagator$State" "isNone" "Z", Cond.methodLink RX7 41 yX7_isConstant, Cond.instanceMethod yX7_isConstant, Cond.selects RX7 yX7_isConstant yX7_isConstant, Cond.code yX7_isConstant cX7_isConstant 2 (some .boolean), Cond.fieldLink RX7 15 "RangePropagator$State" "low" "[I", Cond.fieldLink RX7 19 "RangePropagator$State" "high" "[I"]
def wsX8_constants : List Cond := .code yX8_constants cX8_constants 2 (some .int) :: ((wsX8_constants_r1 ++ wsX8_constants_r2) ++ wsX80 ++ wsX00 ++ wsX40 ++ wsX50 ++ wsX70 ++ (vx_atS RX8 49 "java/lang/IllegalStateException" ["java/lang/RuntimeException", "java/lang/Exception"]).filter goodWord ++ (vx_atS RX8 175 "java/lang/IndexOutOfBoundsException" ["java/lang/RuntimeException", "java/lang/Exception"]).filter goodWord)
def wsX8_visits : List Cond := .code yX8_visits cX8_visits 2 (some .int) :: ([.fieldLink RX8 26 "RangePropagato\x72" "analysis" "LRangePropagator$Analysis;", .fieldLink RX8 152 "RangePropagator$Analysis" "flows" "[LRangePropagator$Flow;", .fieldLink RX8 188 "RangePropagator$Flow" "visitCount" "I", .methodLink RX8 149 yX8_requireAnalysis, .instanceMethod yX8_requireAnalysis, .selects RX8 yX8_requireAnalysis yX8_requireAnalysis, .initialized RX8, .code yX8_requireAnalysis cX8_requireAnalysis 1 none, .classLink RX8 45 "java/lang/IllegalStateException", .initialized "java/lang/IllegalStateException", .fieldLink RX8 37 "RangePropagato\x72" "analysisStands" "Z", .methodLink RX8 77 yX8_requireBlock, .instanceMethod yX8_requireBlock, .selects RX8 yX8_requireBlock yX8_requireBlock, .code yX8_requireBlock cX8_requireBlock 2 none, .classLink RX8 171 "java/lang/IndexOutOfBoundsException", .initialized "java/lang/IndexOutOfBoundsException", .fieldLink RX8 10 "RangePropagato\x72" "program" "LRangePropagator$Program;", .fieldLink RX8 41 "RangePropagator$Program" "count" "I"] ++ wsX80 ++ wsX00 ++ wsX40 ++ wsX50 ++ (vx_atS RX8 49 "java/lang/IllegalStateException" ["java/lang/RuntimeException", "java/lang/Exception"]).filter goodWord ++ (vx_atS RX8 175 "java/lang/IndexOutOfBoundsException" ["java/lang/RuntimeException", "java/lang/Exception"]).filter goodWord)
def wsX8_run_r1 : List Cond := [Cond.classLink RX8 93 "java/lang/IllegalArgumentException", Cond.initialized "java/lang/IllegalArgumentException", Cond.fieldLink RX8 33 "RangePropagato\x72" "execution" "LRangePropagator$Execution;", Cond.fieldLink RX8 10 "RangePropagato\x72" "program" "LRangePropagator$Program;", Cond.fieldLink RX8 197 "RangePropagator$Execution" "stepCount" "I", Cond.methodLink RX8 193 yX3_execute, Cond.instanceMethod yX3_execute, Cond.selects RX3 yX3_execute yX3_execute, Cond.initialized RX3, Cond.code yX3_execute cX3_execute 9 none, Cond.fieldLink RX3 25 "RangePropagator$Execution" "\x72" "J", Cond.fieldLink RX3 29 "RangePropagator$Program" "initial" "LRangePropagator$State;", Cond.fieldLink RX3 9 "RangePropagator$Execution" "values" "[I", Cond.fieldLink RX3 35 "RangePropagator$State" "low" "[I", Cond.fieldLink RX3 40 "RangePropagator$State" "high" "[I", Cond.fieldLink RX3 21 "RangePropagator$Execution" "stepCount" "I", Cond.fieldLink RX3 47 "RangePropagator$Program" "blocks" "[LRangePropagator$Block;", Cond.fieldLink RX3 59 "RangePropagator$Block" "edgeCount" "I", Cond.methodLink RX3 43 yX3_choose, Cond.instanceMethod yX3_choose, Cond.selects RX3 yX3_choose yX3_choose, Cond.code yX3_choose cX3_choose 7 (some .int), Cond.constantLong RX3 120 (6364136223846793005), Cond.constantLong RX3 122 (1442695040888963407)]
def wsX8_run_r2 : List Cond := [Cond.methodLink RX3 114 yJ9_floorMod_f86c9, Cond.static yJ9_floorMod_f86c9, Cond.initialized RJ9, Cond.code yJ9_floorMod_f86c9 cJ9_floorMod_f86c9 6 (some .long), Cond.methodLink RX3 51 yX3_noteStep, Cond.instanceMethod yX3_noteStep, Cond.selects RX3 yX3_noteStep yX3_noteStep, Cond.code yX3_noteStep cX3_noteStep 3 none, Cond.fieldLink RX3 15 "RangePropagator$Execution" "stepBlocks" "[I", Cond.fieldLink RX3 18 "RangePropagator$Execution" "stepValues" "[I", Cond.methodLink RX3 68 arraycopyName, Cond.native arraycopyName, Cond.static arraycopyName, Cond.initialized "java/lang/System", Cond.methodLink RX3 55 yX3_perform, Cond.instanceMethod yX3_perform, Cond.selects RX3 yX3_perform yX3_perform, Cond.code yX3_perform cX3_perform 3 none, Cond.fieldLink RX3 74 "RangePropagator$Block" "statementCount" "I", Cond.fieldLink RX3 77 "RangePropagator$Block" "targets" "[I", Cond.fieldLink RX3 80 "RangePropagator$Block" "kinds" "[I", Cond.fieldLink RX3 83 "RangePropagator$Block" "firsts" "[I", Cond.fieldLink RX3 86 "RangePropagator$Block" "seconds" "[I", Cond.methodLink RX3 89 yX3_outcomeOf]
def wsX8_run_r3 : List Cond := [Cond.instanceMethod yX3_outcomeOf, Cond.selects RX3 yX3_outcomeOf yX3_outcomeOf, Cond.code yX3_outcomeOf cX3_outcomeOf 4 (some .int), Cond.methodLink RX3 93 yX1_outcome, Cond.static yX1_outcome, Cond.initialized RX1, Cond.code yX1_outcome cX1_outcome 5 (some .int), Cond.methodLink RX1 9 Lib.Math.min.name, Cond.static Lib.Math.min.name, Cond.initialized "java/lang/Math", Cond.code Lib.Math.min.name Lib.Math.min.code 2 (some .int), Cond.methodLink RX1 15 Lib.Math.max.name, Cond.static Lib.Math.max.name, Cond.code Lib.Math.max.name Lib.Math.max.code 2 (some .int), Cond.constantLong RX1 18 (-1000000000), Cond.constantLong RX1 20 (1000000000), Cond.methodLink RX1 22 Lib.MathLoose.min_long.x, Cond.static Lib.MathLoose.min_long.x, Cond.code Lib.MathLoose.min_long.x Lib.MathLoose.min_long.code 4 (some .long), Cond.methodLink RX1 25 Lib.MathLoose.max_long.x, Cond.static Lib.MathLoose.max_long.x, Cond.code Lib.MathLoose.max_long.x Lib.MathLoose.max_long.code 4 (some .long), Cond.methodLink RX3 64 yX3_follower, Cond.instanceMethod yX3_follower]
def wsX8_run_r4 : List Cond := [Cond.selects RX3 yX3_follower yX3_follower, Cond.code yX3_follower cX3_follower 3 (some .int), Cond.fieldLink RX3 98 "RangePropagator$Block" "followers" "[I", Cond.fieldLink RX3 101 "RangePropagator$Block" "branchX" "I", Cond.fieldLink RX3 104 "RangePropagator$Block" "relation" "I", Cond.fieldLink RX3 107 "RangePropagator$Block" "branchY" "I", Cond.methodLink RX3 110 yX1_isTrue, Cond.static yX1_isTrue, Cond.code yX1_isTrue cX1_isTrue 3 (some .boolean)]
def wsX8_run : List Cond := .code yX8_run cX8_run 4 (some .int) :: ((wsX8_run_r1 ++ (wsX8_run_r2 ++ (wsX8_run_r3 ++ wsX8_run_r4))) ++ wsX80 ++ wsX30 ++ wsX50 ++ wsX70 ++ wsX20 ++ (vx_atS RX8 97 "java/lang/IllegalArgumentException" ["java/lang/RuntimeException", "java/lang/Exception"]).filter goodWord)
def wsX8_requireStep : List Cond := .code yX8_requireStep cX8_requireStep 2 none :: ([.classLink RX8 171 "java/lang/IndexOutOfBoundsException", .initialized "java/lang/IndexOutOfBoundsException", .fieldLink RX8 33 "RangePropagato\x72" "execution" "LRangePropagator$Execution;", .fieldLink RX8 197 "RangePropagator$Execution" "stepCount" "I"] ++ wsX80 ++ wsX30 ++ (vx_atS RX8 175 "java/lang/IndexOutOfBoundsException" ["java/lang/RuntimeException", "java/lang/Exception"]).filter goodWord)
def wsX8_enteredBlock : List Cond := .code yX8_enteredBlock cX8_enteredBlock 2 (some .int) :: ([.fieldLink RX8 33 "RangePropagato\x72" "execution" "LRangePropagator$Execution;", .fieldLink RX8 203 "RangePropagator$Execution" "stepBlocks" "[I", .methodLink RX8 200 yX8_requireStep, .instanceMethod yX8_requireStep, .selects RX8 yX8_requireStep yX8_requireStep, .initialized RX8, .code yX8_requireStep cX8_requireStep 2 none, .classLink RX8 171 "java/lang/IndexOutOfBoundsException", .initialized "java/lang/IndexOutOfBoundsException", .fieldLink RX8 197 "RangePropagator$Execution" "stepCount" "I"] ++ wsX80 ++ wsX30 ++ (vx_atS RX8 175 "java/lang/IndexOutOfBoundsException" ["java/lang/RuntimeException", "java/lang/Exception"]).filter goodWord)
def wsX8_enteredWith : List Cond := .code yX8_enteredWith cX8_enteredWith 3 (some .int) :: ([.fieldLink RX8 33 "RangePropagato\x72" "execution" "LRangePropagator$Execution;", .fieldLink RX8 206 "RangePropagator$Execution" "stepValues" "[I", .methodLink RX8 200 yX8_requireStep, .instanceMethod yX8_requireStep, .selects RX8 yX8_requireStep yX8_requireStep, .initialized RX8, .code yX8_requireStep cX8_requireStep 2 none, .classLink RX8 171 "java/lang/IndexOutOfBoundsException", .initialized "java/lang/IndexOutOfBoundsException", .fieldLink RX8 197 "RangePropagator$Execution" "stepCount" "I", .methodLink RX8 52 yX8_requireVariable, .static yX8_requireVariable, .code yX8_requireVariable cX8_requireVariable 1 none] ++ wsX80 ++ wsX30 ++ (vx_atS RX8 175 "java/lang/IndexOutOfBoundsException" ["java/lang/RuntimeException", "java/lang/Exception"]).filter goodWord)
def wsX8_result : List Cond := .code yX8_result cX8_result 2 (some .int) :: ([.fieldLink RX8 33 "RangePropagato\x72" "execution" "LRangePropagator$Execution;", .fieldLink RX8 209 "RangePropagator$Execution" "values" "[I", .methodLink RX8 52 yX8_requireVariable, .static yX8_requireVariable, .initialized RX8, .code yX8_requireVariable cX8_requireVariable 1 none, .classLink RX8 171 "java/lang/IndexOutOfBoundsException", .initialized "java/lang/IndexOutOfBoundsException"] ++ wsX80 ++ wsX30 ++ (vx_atS RX8 175 "java/lang/IndexOutOfBoundsException" ["java/lang/RuntimeException", "java/lang/Exception"]).filter goodWord)
def wsX8_digestProgram : List Cond := .code yX8_digestProgram cX8_digestProgram 6 (some .long) :: ([.constantLong RX8 218 (31), .fieldLink RX8 10 "RangePropagato\x72" "program" "LRangePropagator$Program;", .fieldLink RX8 41 "RangePropagator$Program" "count" "I", .fieldLink RX8 83 "RangePropagator$Program" "blocks" "[LRangePropagator$Block;", .fieldLink RX8 110 "RangePropagator$Block" "statementCount" "I", .fieldLink RX8 98 "RangePropagator$Block" "edgeCount" "I"] ++ wsX80 ++ wsX50 ++ wsX20)
def wsX8_digestRanges : List Cond := .code yX8_digestRanges cX8_digestRanges 6 (some .long) :: ([.constantLong RX8 218 (31), .fieldLink RX8 64 "RangePropagator$State" "low" "[I", .fieldLink RX8 70 "RangePropagator$State" "high" "[I"] ++ wsX70)
def wsX8_digestAnalysis : List Cond := .code yX8_digestAnalysis cX8_digestAnalysis 7 (some .long) :: ([.fieldLink RX8 10 "RangePropagato\x72" "program" "LRangePropagator$Program;", .fieldLink RX8 41 "RangePropagator$Program" "count" "I", .fieldLink RX8 26 "RangePropagato\x72" "analysis" "LRangePropagator$Analysis;", .fieldLink RX8 152 "RangePropagator$Analysis" "flows" "[LRangePropagator$Flow;", .constantLong RX8 218 (31), .fieldLink RX8 188 "RangePropagator$Flow" "visitCount" "I", .fieldLink RX8 156 "RangePropagator$Flow" "entryState" "LRangePropagator$State;", .fieldLink RX8 161 "RangePropagator$State" "isNone" "Z", .methodLink RX8 223 yX8_digestRanges, .static yX8_digestRanges, .initialized RX8, .code yX8_digestRanges cX8_digestRanges 6 (some .long), .fieldLink RX8 64 "RangePropagator$State" "low" "[I", .fieldLink RX8 70 "RangePropagator$State" "high" "[I"] ++ wsX80 ++ wsX50 ++ wsX00 ++ wsX40 ++ wsX70)
def wsX8_digest_r1 : List Cond := [Cond.constantLong RX8 212 (89), Cond.constantLong RX8 218 (31), Cond.fieldLink RX8 19 "RangePropagato\x72" "settings" "LRangePropagator$Settings;", Cond.fieldLink RX8 120 "RangePropagator$Settings" "delay" "I", Cond.fieldLink RX8 123 "RangePropagator$Settings" "narrowings" "I", Cond.fieldLink RX8 130 "RangePropagator$Settings" "thresholdCount" "I", Cond.fieldLink RX8 37 "RangePropagato\x72" "analysisStands" "Z", Cond.fieldLink RX8 33 "RangePropagato\x72" "execution" "LRangePropagator$Execution;", Cond.fieldLink RX8 209 "RangePropagator$Execution" "values" "[I", Cond.methodLink RX8 214 yX8_digestProgram, Cond.instanceMethod yX8_digestProgram, Cond.selects RX8 yX8_digestProgram yX8_digestProgram, Cond.initialized RX8, Cond.code yX8_digestProgram cX8_digestProgram 6 (some .long), Cond.fieldLink RX8 10 "RangePropagato\x72" "program" "LRangePropagator$Program;", Cond.fieldLink RX8 41 "RangePropagator$Program" "count" "I", Cond.fieldLink RX8 83 "RangePropagator$Program" "blocks" "[LRangePropagator$Block;", Cond.fieldLink RX8 110 "RangePropagator$Block" "statementCount" "I", Cond.fieldLink RX8 98 "RangePropagator$Block" "edgeCount" "I", Cond.methodLink RX8 220 yX8_digestAnalysis, Cond.instanceMethod yX8_digestAnalysis, Cond.selects RX8 yX8_digestAnalysis yX8_digestAnalysis, Cond.code yX8_digestAnalysis cX8_digestAnalysis 7 (some .long), Cond.fieldLink RX8 26 "RangePropagato\x72" "analysis" "LRangePropagator$Analysis;"]
def wsX8_digest_r2 : List Cond := [Cond.fieldLink RX8 152 "RangePropagator$Analysis" "flows" "[LRangePropagator$Flow;", Cond.fieldLink RX8 188 "RangePropagator$Flow" "visitCount" "I", Cond.fieldLink RX8 156 "RangePropagator$Flow" "entryState" "LRangePropagator$State;", Cond.fieldLink RX8 161 "RangePropagator$State" "isNone" "Z", Cond.methodLink RX8 223 yX8_digestRanges, Cond.static yX8_digestRanges, Cond.code yX8_digestRanges cX8_digestRanges 6 (some .long), Cond.fieldLink RX8 64 "RangePropagator$State" "low" "[I", Cond.fieldLink RX8 70 "RangePropagator$State" "high" "[I"]
def wsX8_digest : List Cond := .code yX8_digest cX8_digest 4 (some .long) :: ((wsX8_digest_r1 ++ wsX8_digest_r2) ++ wsX80 ++ wsX60 ++ wsX30 ++ wsX50 ++ wsX20 ++ wsX00 ++ wsX40 ++ wsX70)
def wsX9_init_r1 : List Cond := [Cond.methodLink RX9 1 objectInit, Cond.instanceMethod objectInit, Cond.code objectInit ⟨#[0xb1]⟩ 1 none, Cond.fieldLink RX9 7 "RangePropagatorModel" "blocks" "I", Cond.arrayClass .int, Cond.fieldLink RX9 13 "RangePropagatorModel" "sizes" "[I", Cond.fieldLink RX9 17 "RangePropagatorModel" "statements" "[I", Cond.fieldLink RX9 20 "RangePropagatorModel" "edges" "[I", Cond.fieldLink RX9 23 "RangePropagatorModel" "ups" "[I", Cond.fieldLink RX9 26 "RangePropagatorModel" "downs" "[I", Cond.fieldLink RX9 29 "RangePropagatorModel" "xs" "[I", Cond.fieldLink RX9 32 "RangePropagatorModel" "ys" "[I", Cond.fieldLink RX9 35 "RangePropagatorModel" "relations" "[I", Cond.fieldLink RX9 38 "RangePropagatorModel" "firstLows" "[I", Cond.fieldLink RX9 41 "RangePropagatorModel" "firstHighs" "[I", Cond.fieldLink RX9 44 "RangePropagatorModel" "delay" "I", Cond.fieldLink RX9 47 "RangePropagatorModel" "narrowings" "I", Cond.fieldLink RX9 50 "RangePropagatorModel" "threshold" "[I", Cond.arrayClass .boolean, Cond.fieldLink RX9 53 "RangePropagatorModel" "isThere" "[Z", Cond.fieldLink RX9 57 "RangePropagatorModel" "lows" "[I", Cond.fieldLink RX9 60 "RangePropagatorModel" "highs" "[I", Cond.fieldLink RX9 63 "RangePropagatorModel" "visits" "[I", Cond.fieldLink RX9 66 "RangePropagatorModel" "low" "[I"]
def wsX9_init_r2 : List Cond := [Cond.fieldLink RX9 69 "RangePropagatorModel" "high" "[I", Cond.fieldLink RX9 72 "RangePropagatorModel" "joinLow" "[I", Cond.fieldLink RX9 75 "RangePropagatorModel" "joinHigh" "[I", Cond.fieldLink RX9 78 "RangePropagatorModel" "entered" "[I", Cond.fieldLink RX9 81 "RangePropagatorModel" "enteredWith" "[I", Cond.fieldLink RX9 84 "RangePropagatorModel" "results" "[I"]
def wsX9_init : List Cond := .code yX9_init cX9_init 1 none :: ((wsX9_init_r1 ++ wsX9_init_r2) ++ wsX90)
def wsX9_thrown : List Cond := .code yX9_thrown cX9_thrown 1 (some .int) :: ([.fieldLink RX9 87 "RangePropagatorModel" "thrown" "I"] ++ wsX90)
def wsX9_fail : List Cond := .code yX9_fail cX9_fail 2 (some .int) :: ([.fieldLink RX9 87 "RangePropagatorModel" "thrown" "I"] ++ wsX90)
def wsX9_isBlock : List Cond := .code yX9_isBlock cX9_isBlock 2 (some .boolean) :: ([.fieldLink RX9 7 "RangePropagatorModel" "blocks" "I"] ++ wsX90)
def wsX9_isVariable : List Cond := .code yX9_isVariable cX9_isVariable 1 (some .boolean) :: ([])
def wsX9_isRange : List Cond := .code yX9_isRange cX9_isRange 2 (some .boolean) :: ([.constant RX9 90 (-1000000000), .constant RX9 91 (1000000000)])
def wsX9_addBlock : List Cond := .code yX9_addBlock cX9_addBlock 1 (some .int) :: ([.fieldLink RX9 87 "RangePropagatorModel" "thrown" "I", .fieldLink RX9 7 "RangePropagatorModel" "blocks" "I", .fieldLink RX9 13 "RangePropagatorModel" "sizes" "[I", .fieldLink RX9 20 "RangePropagatorModel" "edges" "[I", .fieldLink RX9 96 "RangePropagatorModel" "isMade" "Z", .methodLink RX9 92 yX9_fail, .instanceMethod yX9_fail, .selects RX9 yX9_fail yX9_fail, .initialized RX9, .code yX9_fail cX9_fail 2 (some .int)] ++ wsX90)
def wsX9_setInitial : List Cond := .code yX9_setInitial cX9_setInitial 5 (some .boolean) :: ([.fieldLink RX9 87 "RangePropagatorModel" "thrown" "I", .fieldLink RX9 38 "RangePropagatorModel" "firstLows" "[I", .fieldLink RX9 41 "RangePropagatorModel" "firstHighs" "[I", .fieldLink RX9 96 "RangePropagatorModel" "isMade" "Z", .methodLink RX9 100 yX9_isVariable, .static yX9_isVariable, .initialized RX9, .code yX9_isVariable cX9_isVariable 1 (some .boolean), .methodLink RX9 92 yX9_fail, .instanceMethod yX9_fail, .selects RX9 yX9_fail yX9_fail, .code yX9_fail cX9_fail 2 (some .int), .methodLink RX9 104 yX9_isRange, .static yX9_isRange, .code yX9_isRange cX9_isRange 2 (some .boolean), .constant RX9 90 (-1000000000), .constant RX9 91 (1000000000)] ++ wsX90)
def wsX9_append : List Cond := .code yX9_append cX9_append 7 (some .int) :: ([.fieldLink RX9 13 "RangePropagatorModel" "sizes" "[I", .fieldLink RX9 17 "RangePropagatorModel" "statements" "[I", .fieldLink RX9 96 "RangePropagatorModel" "isMade" "Z"] ++ wsX90)
def wsX9_input_r1 : List Cond := [Cond.fieldLink RX9 87 "RangePropagatorModel" "thrown" "I", Cond.fieldLink RX9 13 "RangePropagatorModel" "sizes" "[I", Cond.methodLink RX9 108 yX9_isBlock, Cond.instanceMethod yX9_isBlock, Cond.selects RX9 yX9_isBlock yX9_isBlock, Cond.initialized RX9, Cond.code yX9_isBlock cX9_isBlock 2 (some .boolean), Cond.fieldLink RX9 7 "RangePropagatorModel" "blocks" "I", Cond.methodLink RX9 100 yX9_isVariable, Cond.static yX9_isVariable, Cond.code yX9_isVariable cX9_isVariable 1 (some .boolean), Cond.methodLink RX9 92 yX9_fail, Cond.instanceMethod yX9_fail, Cond.selects RX9 yX9_fail yX9_fail, Cond.code yX9_fail cX9_fail 2 (some .int), Cond.methodLink RX9 104 yX9_isRange, Cond.static yX9_isRange, Cond.code yX9_isRange cX9_isRange 2 (some .boolean), Cond.constant RX9 90 (-1000000000), Cond.constant RX9 91 (1000000000), Cond.methodLink RX9 111 yX9_append, Cond.instanceMethod yX9_append, Cond.selects RX9 yX9_append yX9_append, Cond.code yX9_append cX9_append 7 (some .int)]
def wsX9_input_r2 : List Cond := [Cond.fieldLink RX9 17 "RangePropagatorModel" "statements" "[I", Cond.fieldLink RX9 96 "RangePropagatorModel" "isMade" "Z"]
def wsX9_input : List Cond := .code yX9_input cX9_input 5 (some .int) :: ((wsX9_input_r1 ++ wsX9_input_r2) ++ wsX90)
def wsX9_compute : List Cond := .code yX9_compute cX9_compute 6 (some .int) :: ([.fieldLink RX9 87 "RangePropagatorModel" "thrown" "I", .fieldLink RX9 13 "RangePropagatorModel" "sizes" "[I", .methodLink RX9 108 yX9_isBlock, .instanceMethod yX9_isBlock, .selects RX9 yX9_isBlock yX9_isBlock, .initialized RX9, .code yX9_isBlock cX9_isBlock 2 (some .boolean), .fieldLink RX9 7 "RangePropagatorModel" "blocks" "I", .methodLink RX9 100 yX9_isVariable, .static yX9_isVariable, .code yX9_isVariable cX9_isVariable 1 (some .boolean), .methodLink RX9 92 yX9_fail, .instanceMethod yX9_fail, .selects RX9 yX9_fail yX9_fail, .code yX9_fail cX9_fail 2 (some .int), .methodLink RX9 111 yX9_append, .instanceMethod yX9_append, .selects RX9 yX9_append yX9_append, .code yX9_append cX9_append 7 (some .int), .fieldLink RX9 17 "RangePropagatorModel" "statements" "[I", .fieldLink RX9 96 "RangePropagatorModel" "isMade" "Z"] ++ wsX90)
def wsX9_end : List Cond := .code yX9_end cX9_end 6 (some .int) :: ([.fieldLink RX9 20 "RangePropagatorModel" "edges" "[I", .fieldLink RX9 23 "RangePropagatorModel" "ups" "[I", .fieldLink RX9 26 "RangePropagatorModel" "downs" "[I", .fieldLink RX9 96 "RangePropagatorModel" "isMade" "Z"] ++ wsX90)
def wsX9_jump : List Cond := .code yX9_jump cX9_jump 3 (some .int) :: ([.fieldLink RX9 87 "RangePropagatorModel" "thrown" "I", .methodLink RX9 108 yX9_isBlock, .instanceMethod yX9_isBlock, .selects RX9 yX9_isBlock yX9_isBlock, .initialized RX9, .code yX9_isBlock cX9_isBlock 2 (some .boolean), .fieldLink RX9 7 "RangePropagatorModel" "blocks" "I", .methodLink RX9 115 yX9_end, .instanceMethod yX9_end, .selects RX9 yX9_end yX9_end, .code yX9_end cX9_end 6 (some .int), .fieldLink RX9 20 "RangePropagatorModel" "edges" "[I", .fieldLink RX9 23 "RangePropagatorModel" "ups" "[I", .fieldLink RX9 26 "RangePropagatorModel" "downs" "[I", .fieldLink RX9 96 "RangePropagatorModel" "isMade" "Z", .methodLink RX9 92 yX9_fail, .instanceMethod yX9_fail, .selects RX9 yX9_fail yX9_fail, .code yX9_fail cX9_fail 2 (some .int)] ++ wsX90)
def wsX9_branch_r1 : List Cond := [Cond.fieldLink RX9 87 "RangePropagatorModel" "thrown" "I", Cond.fieldLink RX9 29 "RangePropagatorModel" "xs" "[I", Cond.fieldLink RX9 32 "RangePropagatorModel" "ys" "[I", Cond.fieldLink RX9 35 "RangePropagatorModel" "relations" "[I", Cond.methodLink RX9 108 yX9_isBlock, Cond.instanceMethod yX9_isBlock, Cond.selects RX9 yX9_isBlock yX9_isBlock, Cond.initialized RX9, Cond.code yX9_isBlock cX9_isBlock 2 (some .boolean), Cond.fieldLink RX9 7 "RangePropagatorModel" "blocks" "I", Cond.methodLink RX9 100 yX9_isVariable, Cond.static yX9_isVariable, Cond.code yX9_isVariable cX9_isVariable 1 (some .boolean), Cond.methodLink RX9 92 yX9_fail, Cond.instanceMethod yX9_fail, Cond.selects RX9 yX9_fail yX9_fail, Cond.code yX9_fail cX9_fail 2 (some .int), Cond.methodLink RX9 115 yX9_end, Cond.instanceMethod yX9_end, Cond.selects RX9 yX9_end yX9_end, Cond.code yX9_end cX9_end 6 (some .int), Cond.fieldLink RX9 20 "RangePropagatorModel" "edges" "[I", Cond.fieldLink RX9 23 "RangePropagatorModel" "ups" "[I", Cond.fieldLink RX9 26 "RangePropagatorModel" "downs" "[I"]
def wsX9_branch_r2 : List Cond := [Cond.fieldLink RX9 96 "RangePropagatorModel" "isMade" "Z"]
def wsX9_branch : List Cond := .code yX9_branch cX9_branch 7 (some .int) :: ((wsX9_branch_r1 ++ wsX9_branch_r2) ++ wsX90)
def wsX9_clear : List Cond := .code yX9_clear cX9_clear 3 (some .int) :: ([.fieldLink RX9 87 "RangePropagatorModel" "thrown" "I", .fieldLink RX9 13 "RangePropagatorModel" "sizes" "[I", .methodLink RX9 108 yX9_isBlock, .instanceMethod yX9_isBlock, .selects RX9 yX9_isBlock yX9_isBlock, .initialized RX9, .code yX9_isBlock cX9_isBlock 2 (some .boolean), .fieldLink RX9 7 "RangePropagatorModel" "blocks" "I", .methodLink RX9 92 yX9_fail, .instanceMethod yX9_fail, .selects RX9 yX9_fail yX9_fail, .code yX9_fail cX9_fail 2 (some .int), .methodLink RX9 115 yX9_end, .instanceMethod yX9_end, .selects RX9 yX9_end yX9_end, .code yX9_end cX9_end 6 (some .int), .fieldLink RX9 20 "RangePropagatorModel" "edges" "[I", .fieldLink RX9 23 "RangePropagatorModel" "ups" "[I", .fieldLink RX9 26 "RangePropagatorModel" "downs" "[I", .fieldLink RX9 96 "RangePropagatorModel" "isMade" "Z"] ++ wsX90)
def wsX9_blockCount : List Cond := .code yX9_blockCount cX9_blockCount 1 (some .int) :: ([.fieldLink RX9 87 "RangePropagatorModel" "thrown" "I", .fieldLink RX9 7 "RangePropagatorModel" "blocks" "I"] ++ wsX90)
def wsX9_setEffort : List Cond := .code yX9_setEffort cX9_setEffort 4 (some .boolean) :: ([.fieldLink RX9 87 "RangePropagatorModel" "thrown" "I", .fieldLink RX9 44 "RangePropagatorModel" "delay" "I", .fieldLink RX9 47 "RangePropagatorModel" "narrowings" "I", .fieldLink RX9 96 "RangePropagatorModel" "isMade" "Z", .methodLink RX9 92 yX9_fail, .instanceMethod yX9_fail, .selects RX9 yX9_fail yX9_fail, .initialized RX9, .code yX9_fail cX9_fail 2 (some .int)] ++ wsX90)
def wsX9_addThreshold : List Cond := .code yX9_addThreshold cX9_addThreshold 4 (some .int) :: ([.fieldLink RX9 87 "RangePropagatorModel" "thrown" "I", .constant RX9 90 (-1000000000), .constant RX9 91 (1000000000), .fieldLink RX9 119 "RangePropagatorModel" "thresholds" "I", .fieldLink RX9 50 "RangePropagatorModel" "threshold" "[I", .fieldLink RX9 96 "RangePropagatorModel" "isMade" "Z", .methodLink RX9 92 yX9_fail, .instanceMethod yX9_fail, .selects RX9 yX9_fail yX9_fail, .initialized RX9, .code yX9_fail cX9_fail 2 (some .int)] ++ wsX90)
def wsX9_limited : List Cond := .code yX9_limited cX9_limited 2 (some .int) :: ([.constantLong RX9 122 (-1000000000), .constantLong RX9 124 (1000000000), .methodLink RX9 126 Lib.MathLoose.min_long.x, .static Lib.MathLoose.min_long.x, .initialized "java/lang/Math", .code Lib.MathLoose.min_long.x Lib.MathLoose.min_long.code 4 (some .long), .methodLink RX9 132 Lib.MathLoose.max_long.x, .static Lib.MathLoose.max_long.x, .code Lib.MathLoose.max_long.x Lib.MathLoose.max_long.code 4 (some .long)])
def wsX9_set : List Cond := .code yX9_set cX9_set 6 none :: ([.fieldLink RX9 66 "RangePropagatorModel" "low" "[I", .fieldLink RX9 69 "RangePropagatorModel" "high" "[I", .methodLink RX9 135 yX9_limited, .static yX9_limited, .initialized RX9, .code yX9_limited cX9_limited 2 (some .int), .constantLong RX9 122 (-1000000000), .constantLong RX9 124 (1000000000), .methodLink RX9 126 Lib.MathLoose.min_long.x, .static Lib.MathLoose.min_long.x, .initialized "java/lang/Math", .code Lib.MathLoose.min_long.x Lib.MathLoose.min_long.code 4 (some .long), .methodLink RX9 132 Lib.MathLoose.max_long.x, .static Lib.MathLoose.max_long.x, .code Lib.MathLoose.max_long.x Lib.MathLoose.max_long.code 4 (some .long)] ++ wsX90)
def wsX9_product : List Cond := .code yX9_product cX9_product 12 none :: ([.fieldLink RX9 66 "RangePropagatorModel" "low" "[I", .fieldLink RX9 69 "RangePropagatorModel" "high" "[I", .methodLink RX9 126 Lib.MathLoose.min_long.x, .static Lib.MathLoose.min_long.x, .initialized "java/lang/Math", .code Lib.MathLoose.min_long.x Lib.MathLoose.min_long.code 4 (some .long), .methodLink RX9 132 Lib.MathLoose.max_long.x, .static Lib.MathLoose.max_long.x, .code Lib.MathLoose.max_long.x Lib.MathLoose.max_long.code 4 (some .long), .methodLink RX9 139 yX9_set, .instanceMethod yX9_set, .selects RX9 yX9_set yX9_set, .initialized RX9, .code yX9_set cX9_set 6 none, .methodLink RX9 135 yX9_limited, .static yX9_limited, .code yX9_limited cX9_limited 2 (some .int), .constantLong RX9 122 (-1000000000), .constantLong RX9 124 (1000000000)] ++ wsX90)
def wsX9_apply_r1 : List Cond := [Cond.fieldLink RX9 17 "RangePropagatorModel" "statements" "[I", Cond.fieldLink RX9 66 "RangePropagatorModel" "low" "[I", Cond.fieldLink RX9 69 "RangePropagatorModel" "high" "[I", Cond.methodLink RX9 147 Lib.Math.min.name, Cond.static Lib.Math.min.name, Cond.initialized "java/lang/Math", Cond.code Lib.Math.min.name Lib.Math.min.code 2 (some .int), Cond.methodLink RX9 150 Lib.Math.max.name, Cond.static Lib.Math.max.name, Cond.code Lib.Math.max.name Lib.Math.max.code 2 (some .int), Cond.methodLink RX9 139 yX9_set, Cond.instanceMethod yX9_set, Cond.selects RX9 yX9_set yX9_set, Cond.initialized RX9, Cond.code yX9_set cX9_set 6 none, Cond.methodLink RX9 135 yX9_limited, Cond.static yX9_limited, Cond.code yX9_limited cX9_limited 2 (some .int), Cond.constantLong RX9 122 (-1000000000), Cond.constantLong RX9 124 (1000000000), Cond.methodLink RX9 126 Lib.MathLoose.min_long.x, Cond.static Lib.MathLoose.min_long.x, Cond.code Lib.MathLoose.min_long.x Lib.MathLoose.min_long.code 4 (some .long), Cond.methodLink RX9 132 Lib.MathLoose.max_long.x]
def wsX9_apply_r2 : List Cond := [Cond.static Lib.MathLoose.max_long.x, Cond.code Lib.MathLoose.max_long.x Lib.MathLoose.max_long.code 4 (some .long), Cond.methodLink RX9 143 yX9_product, Cond.instanceMethod yX9_product, Cond.selects RX9 yX9_product yX9_product, Cond.code yX9_product cX9_product 12 none]
def wsX9_apply : List Cond := .code yX9_apply cX9_apply 5 none :: ((wsX9_apply_r1 ++ wsX9_apply_r2) ++ wsX90)
def wsX9_leave_r1 : List Cond := [Cond.fieldLink RX9 66 "RangePropagatorModel" "low" "[I", Cond.fieldLink RX9 57 "RangePropagatorModel" "lows" "[I", Cond.fieldLink RX9 69 "RangePropagatorModel" "high" "[I", Cond.fieldLink RX9 60 "RangePropagatorModel" "highs" "[I", Cond.fieldLink RX9 13 "RangePropagatorModel" "sizes" "[I", Cond.methodLink RX9 152 yX9_apply, Cond.instanceMethod yX9_apply, Cond.selects RX9 yX9_apply yX9_apply, Cond.initialized RX9, Cond.code yX9_apply cX9_apply 5 none, Cond.fieldLink RX9 17 "RangePropagatorModel" "statements" "[I", Cond.methodLink RX9 147 Lib.Math.min.name, Cond.static Lib.Math.min.name, Cond.initialized "java/lang/Math", Cond.code Lib.Math.min.name Lib.Math.min.code 2 (some .int), Cond.methodLink RX9 150 Lib.Math.max.name, Cond.static Lib.Math.max.name, Cond.code Lib.Math.max.name Lib.Math.max.code 2 (some .int), Cond.methodLink RX9 139 yX9_set, Cond.instanceMethod yX9_set, Cond.selects RX9 yX9_set yX9_set, Cond.code yX9_set cX9_set 6 none, Cond.methodLink RX9 135 yX9_limited, Cond.static yX9_limited]
def wsX9_leave_r2 : List Cond := [Cond.code yX9_limited cX9_limited 2 (some .int), Cond.constantLong RX9 122 (-1000000000), Cond.constantLong RX9 124 (1000000000), Cond.methodLink RX9 126 Lib.MathLoose.min_long.x, Cond.static Lib.MathLoose.min_long.x, Cond.code Lib.MathLoose.min_long.x Lib.MathLoose.min_long.code 4 (some .long), Cond.methodLink RX9 132 Lib.MathLoose.max_long.x, Cond.static Lib.MathLoose.max_long.x, Cond.code Lib.MathLoose.max_long.x Lib.MathLoose.max_long.code 4 (some .long), Cond.methodLink RX9 143 yX9_product, Cond.instanceMethod yX9_product, Cond.selects RX9 yX9_product yX9_product, Cond.code yX9_product cX9_product 12 none]
def wsX9_leave : List Cond := .code yX9_leave cX9_leave 3 none :: ((wsX9_leave_r1 ++ wsX9_leave_r2) ++ wsX90)
def wsX9_opposite : List Cond := .code yX9_opposite cX9_opposite 1 (some .int) :: ([])
def wsX9_refine : List Cond := .code yX9_refine cX9_refine 8 none :: ([.fieldLink RX9 66 "RangePropagatorModel" "low" "[I", .fieldLink RX9 69 "RangePropagatorModel" "high" "[I", .methodLink RX9 147 Lib.Math.min.name, .static Lib.Math.min.name, .initialized "java/lang/Math", .code Lib.Math.min.name Lib.Math.min.code 2 (some .int), .methodLink RX9 150 Lib.Math.max.name, .static Lib.Math.max.name, .code Lib.Math.max.name Lib.Math.max.code 2 (some .int)] ++ wsX90)
def wsX9_reach_r1 : List Cond := [Cond.fieldLink RX9 53 "RangePropagatorModel" "isThere" "[Z", Cond.fieldLink RX9 20 "RangePropagatorModel" "edges" "[I", Cond.fieldLink RX9 29 "RangePropagatorModel" "xs" "[I", Cond.fieldLink RX9 32 "RangePropagatorModel" "ys" "[I", Cond.fieldLink RX9 35 "RangePropagatorModel" "relations" "[I", Cond.fieldLink RX9 66 "RangePropagatorModel" "low" "[I", Cond.fieldLink RX9 69 "RangePropagatorModel" "high" "[I", Cond.methodLink RX9 156 yX9_leave, Cond.instanceMethod yX9_leave, Cond.selects RX9 yX9_leave yX9_leave, Cond.initialized RX9, Cond.code yX9_leave cX9_leave 3 none, Cond.fieldLink RX9 57 "RangePropagatorModel" "lows" "[I", Cond.fieldLink RX9 60 "RangePropagatorModel" "highs" "[I", Cond.fieldLink RX9 13 "RangePropagatorModel" "sizes" "[I", Cond.methodLink RX9 152 yX9_apply, Cond.instanceMethod yX9_apply, Cond.selects RX9 yX9_apply yX9_apply, Cond.code yX9_apply cX9_apply 5 none, Cond.fieldLink RX9 17 "RangePropagatorModel" "statements" "[I", Cond.methodLink RX9 147 Lib.Math.min.name, Cond.static Lib.Math.min.name, Cond.initialized "java/lang/Math", Cond.code Lib.Math.min.name Lib.Math.min.code 2 (some .int)]
def wsX9_reach_r2 : List Cond := [Cond.methodLink RX9 150 Lib.Math.max.name, Cond.static Lib.Math.max.name, Cond.code Lib.Math.max.name Lib.Math.max.code 2 (some .int), Cond.methodLink RX9 139 yX9_set, Cond.instanceMethod yX9_set, Cond.selects RX9 yX9_set yX9_set, Cond.code yX9_set cX9_set 6 none, Cond.methodLink RX9 135 yX9_limited, Cond.static yX9_limited, Cond.code yX9_limited cX9_limited 2 (some .int), Cond.constantLong RX9 122 (-1000000000), Cond.constantLong RX9 124 (1000000000), Cond.methodLink RX9 126 Lib.MathLoose.min_long.x, Cond.static Lib.MathLoose.min_long.x, Cond.code Lib.MathLoose.min_long.x Lib.MathLoose.min_long.code 4 (some .long), Cond.methodLink RX9 132 Lib.MathLoose.max_long.x, Cond.static Lib.MathLoose.max_long.x, Cond.code Lib.MathLoose.max_long.x Lib.MathLoose.max_long.code 4 (some .long), Cond.methodLink RX9 143 yX9_product, Cond.instanceMethod yX9_product, Cond.selects RX9 yX9_product yX9_product, Cond.code yX9_product cX9_product 12 none, Cond.methodLink RX9 159 yX9_opposite, Cond.static yX9_opposite]
def wsX9_reach_r3 : List Cond := [Cond.code yX9_opposite cX9_opposite 1 (some .int), Cond.methodLink RX9 162 yX9_refine, Cond.instanceMethod yX9_refine, Cond.selects RX9 yX9_refine yX9_refine, Cond.code yX9_refine cX9_refine 8 none]
def wsX9_reach : List Cond := .code yX9_reach cX9_reach 6 (some .boolean) :: ((wsX9_reach_r1 ++ (wsX9_reach_r2 ++ wsX9_reach_r3)) ++ wsX90)
def wsX9_join : List Cond := .code yX9_join cX9_join 2 none :: ([.fieldLink RX9 72 "RangePropagatorModel" "joinLow" "[I", .fieldLink RX9 165 "RangePropagatorModel" "hasJoin" "Z", .fieldLink RX9 66 "RangePropagatorModel" "low" "[I", .methodLink RX9 147 Lib.Math.min.name, .static Lib.Math.min.name, .initialized "java/lang/Math", .code Lib.Math.min.name Lib.Math.min.code 2 (some .int), .fieldLink RX9 75 "RangePropagatorModel" "joinHigh" "[I", .fieldLink RX9 69 "RangePropagatorModel" "high" "[I", .methodLink RX9 150 Lib.Math.max.name, .static Lib.Math.max.name, .code Lib.Math.max.name Lib.Math.max.code 2 (some .int)] ++ wsX90)
def wsX9_gather_r1 : List Cond := [Cond.fieldLink RX9 165 "RangePropagatorModel" "hasJoin" "Z", Cond.fieldLink RX9 7 "RangePropagatorModel" "blocks" "I", Cond.fieldLink RX9 20 "RangePropagatorModel" "edges" "[I", Cond.fieldLink RX9 23 "RangePropagatorModel" "ups" "[I", Cond.fieldLink RX9 26 "RangePropagatorModel" "downs" "[I", Cond.fieldLink RX9 66 "RangePropagatorModel" "low" "[I", Cond.fieldLink RX9 38 "RangePropagatorModel" "firstLows" "[I", Cond.fieldLink RX9 69 "RangePropagatorModel" "high" "[I", Cond.fieldLink RX9 41 "RangePropagatorModel" "firstHighs" "[I", Cond.methodLink RX9 168 yX9_reach, Cond.instanceMethod yX9_reach, Cond.selects RX9 yX9_reach yX9_reach, Cond.initialized RX9, Cond.code yX9_reach cX9_reach 6 (some .boolean), Cond.fieldLink RX9 53 "RangePropagatorModel" "isThere" "[Z", Cond.fieldLink RX9 29 "RangePropagatorModel" "xs" "[I", Cond.fieldLink RX9 32 "RangePropagatorModel" "ys" "[I", Cond.fieldLink RX9 35 "RangePropagatorModel" "relations" "[I", Cond.methodLink RX9 156 yX9_leave, Cond.instanceMethod yX9_leave, Cond.selects RX9 yX9_leave yX9_leave, Cond.code yX9_leave cX9_leave 3 none, Cond.fieldLink RX9 57 "RangePropagatorModel" "lows" "[I", Cond.fieldLink RX9 60 "RangePropagatorModel" "highs" "[I"]
def wsX9_gather_r2 : List Cond := [Cond.fieldLink RX9 13 "RangePropagatorModel" "sizes" "[I", Cond.methodLink RX9 152 yX9_apply, Cond.instanceMethod yX9_apply, Cond.selects RX9 yX9_apply yX9_apply, Cond.code yX9_apply cX9_apply 5 none, Cond.fieldLink RX9 17 "RangePropagatorModel" "statements" "[I", Cond.methodLink RX9 147 Lib.Math.min.name, Cond.static Lib.Math.min.name, Cond.initialized "java/lang/Math", Cond.code Lib.Math.min.name Lib.Math.min.code 2 (some .int), Cond.methodLink RX9 150 Lib.Math.max.name, Cond.static Lib.Math.max.name, Cond.code Lib.Math.max.name Lib.Math.max.code 2 (some .int), Cond.methodLink RX9 139 yX9_set, Cond.instanceMethod yX9_set, Cond.selects RX9 yX9_set yX9_set, Cond.code yX9_set cX9_set 6 none, Cond.methodLink RX9 135 yX9_limited, Cond.static yX9_limited, Cond.code yX9_limited cX9_limited 2 (some .int), Cond.constantLong RX9 122 (-1000000000), Cond.constantLong RX9 124 (1000000000), Cond.methodLink RX9 126 Lib.MathLoose.min_long.x, Cond.static Lib.MathLoose.min_long.x]
def wsX9_gather_r3 : List Cond := [Cond.code Lib.MathLoose.min_long.x Lib.MathLoose.min_long.code 4 (some .long), Cond.methodLink RX9 132 Lib.MathLoose.max_long.x, Cond.static Lib.MathLoose.max_long.x, Cond.code Lib.MathLoose.max_long.x Lib.MathLoose.max_long.code 4 (some .long), Cond.methodLink RX9 143 yX9_product, Cond.instanceMethod yX9_product, Cond.selects RX9 yX9_product yX9_product, Cond.code yX9_product cX9_product 12 none, Cond.methodLink RX9 159 yX9_opposite, Cond.static yX9_opposite, Cond.code yX9_opposite cX9_opposite 1 (some .int), Cond.methodLink RX9 162 yX9_refine, Cond.instanceMethod yX9_refine, Cond.selects RX9 yX9_refine yX9_refine, Cond.code yX9_refine cX9_refine 8 none, Cond.methodLink RX9 171 yX9_join, Cond.instanceMethod yX9_join, Cond.selects RX9 yX9_join yX9_join, Cond.code yX9_join cX9_join 2 none, Cond.fieldLink RX9 72 "RangePropagatorModel" "joinLow" "[I", Cond.fieldLink RX9 75 "RangePropagatorModel" "joinHigh" "[I"]
def wsX9_gather : List Cond := .code yX9_gather cX9_gather 4 none :: ((wsX9_gather_r1 ++ (wsX9_gather_r2 ++ wsX9_gather_r3)) ++ wsX90)
def wsX9_below : List Cond := .code yX9_below cX9_below 4 (some .int) :: ([.constant RX9 90 (-1000000000), .fieldLink RX9 119 "RangePropagatorModel" "thresholds" "I", .fieldLink RX9 50 "RangePropagatorModel" "threshold" "[I", .methodLink RX9 150 Lib.Math.max.name, .static Lib.Math.max.name, .initialized "java/lang/Math", .code Lib.Math.max.name Lib.Math.max.code 2 (some .int), .constant RX9 91 (1000000000)] ++ wsX90)
def wsX9_above : List Cond := .code yX9_above cX9_above 4 (some .int) :: ([.constant RX9 91 (1000000000), .fieldLink RX9 119 "RangePropagatorModel" "thresholds" "I", .fieldLink RX9 50 "RangePropagatorModel" "threshold" "[I", .methodLink RX9 147 Lib.Math.min.name, .static Lib.Math.min.name, .initialized "java/lang/Math", .code Lib.Math.min.name Lib.Math.min.code 2 (some .int), .constant RX9 90 (-1000000000)] ++ wsX90)
def wsX9_look_r1 : List Cond := [Cond.fieldLink RX9 165 "RangePropagatorModel" "hasJoin" "Z", Cond.fieldLink RX9 53 "RangePropagatorModel" "isThere" "[Z", Cond.fieldLink RX9 57 "RangePropagatorModel" "lows" "[I", Cond.fieldLink RX9 72 "RangePropagatorModel" "joinLow" "[I", Cond.methodLink RX9 147 Lib.Math.min.name, Cond.static Lib.Math.min.name, Cond.initialized "java/lang/Math", Cond.code Lib.Math.min.name Lib.Math.min.code 2 (some .int), Cond.fieldLink RX9 60 "RangePropagatorModel" "highs" "[I", Cond.fieldLink RX9 75 "RangePropagatorModel" "joinHigh" "[I", Cond.methodLink RX9 150 Lib.Math.max.name, Cond.static Lib.Math.max.name, Cond.code Lib.Math.max.name Lib.Math.max.code 2 (some .int), Cond.fieldLink RX9 63 "RangePropagatorModel" "visits" "[I", Cond.fieldLink RX9 44 "RangePropagatorModel" "delay" "I", Cond.methodLink RX9 174 yX9_gather, Cond.instanceMethod yX9_gather, Cond.selects RX9 yX9_gather yX9_gather, Cond.initialized RX9, Cond.code yX9_gather cX9_gather 4 none, Cond.fieldLink RX9 7 "RangePropagatorModel" "blocks" "I", Cond.fieldLink RX9 20 "RangePropagatorModel" "edges" "[I", Cond.fieldLink RX9 23 "RangePropagatorModel" "ups" "[I", Cond.fieldLink RX9 26 "RangePropagatorModel" "downs" "[I"]
def wsX9_look_r2 : List Cond := [Cond.fieldLink RX9 66 "RangePropagatorModel" "low" "[I", Cond.fieldLink RX9 38 "RangePropagatorModel" "firstLows" "[I", Cond.fieldLink RX9 69 "RangePropagatorModel" "high" "[I", Cond.fieldLink RX9 41 "RangePropagatorModel" "firstHighs" "[I", Cond.methodLink RX9 168 yX9_reach, Cond.instanceMethod yX9_reach, Cond.selects RX9 yX9_reach yX9_reach, Cond.code yX9_reach cX9_reach 6 (some .boolean), Cond.fieldLink RX9 29 "RangePropagatorModel" "xs" "[I", Cond.fieldLink RX9 32 "RangePropagatorModel" "ys" "[I", Cond.fieldLink RX9 35 "RangePropagatorModel" "relations" "[I", Cond.methodLink RX9 156 yX9_leave, Cond.instanceMethod yX9_leave, Cond.selects RX9 yX9_leave yX9_leave, Cond.code yX9_leave cX9_leave 3 none, Cond.fieldLink RX9 13 "RangePropagatorModel" "sizes" "[I", Cond.methodLink RX9 152 yX9_apply, Cond.instanceMethod yX9_apply, Cond.selects RX9 yX9_apply yX9_apply, Cond.code yX9_apply cX9_apply 5 none, Cond.fieldLink RX9 17 "RangePropagatorModel" "statements" "[I", Cond.methodLink RX9 139 yX9_set, Cond.instanceMethod yX9_set, Cond.selects RX9 yX9_set yX9_set]
def wsX9_look_r3 : List Cond := [Cond.code yX9_set cX9_set 6 none, Cond.methodLink RX9 135 yX9_limited, Cond.static yX9_limited, Cond.code yX9_limited cX9_limited 2 (some .int), Cond.constantLong RX9 122 (-1000000000), Cond.constantLong RX9 124 (1000000000), Cond.methodLink RX9 126 Lib.MathLoose.min_long.x, Cond.static Lib.MathLoose.min_long.x, Cond.code Lib.MathLoose.min_long.x Lib.MathLoose.min_long.code 4 (some .long), Cond.methodLink RX9 132 Lib.MathLoose.max_long.x, Cond.static Lib.MathLoose.max_long.x, Cond.code Lib.MathLoose.max_long.x Lib.MathLoose.max_long.code 4 (some .long), Cond.methodLink RX9 143 yX9_product, Cond.instanceMethod yX9_product, Cond.selects RX9 yX9_product yX9_product, Cond.code yX9_product cX9_product 12 none, Cond.methodLink RX9 159 yX9_opposite, Cond.static yX9_opposite, Cond.code yX9_opposite cX9_opposite 1 (some .int), Cond.methodLink RX9 162 yX9_refine, Cond.instanceMethod yX9_refine, Cond.selects RX9 yX9_refine yX9_refine, Cond.code yX9_refine cX9_refine 8 none, Cond.methodLink RX9 171 yX9_join]
def wsX9_look_r4 : List Cond := [Cond.instanceMethod yX9_join, Cond.selects RX9 yX9_join yX9_join, Cond.code yX9_join cX9_join 2 none, Cond.methodLink RX9 177 yX9_below, Cond.instanceMethod yX9_below, Cond.selects RX9 yX9_below yX9_below, Cond.code yX9_below cX9_below 4 (some .int), Cond.constant RX9 90 (-1000000000), Cond.fieldLink RX9 119 "RangePropagatorModel" "thresholds" "I", Cond.fieldLink RX9 50 "RangePropagatorModel" "threshold" "[I", Cond.constant RX9 91 (1000000000), Cond.methodLink RX9 180 yX9_above, Cond.instanceMethod yX9_above, Cond.selects RX9 yX9_above yX9_above, Cond.code yX9_above cX9_above 4 (some .int)]
def wsX9_look : List Cond := .code yX9_look cX9_look 8 (some .boolean) :: ((wsX9_look_r1 ++ (wsX9_look_r2 ++ (wsX9_look_r3 ++ wsX9_look_r4))) ++ wsX90)
def wsX9_narrow_r1 : List Cond := [Cond.fieldLink RX9 53 "RangePropagatorModel" "isThere" "[Z", Cond.fieldLink RX9 165 "RangePropagatorModel" "hasJoin" "Z", Cond.fieldLink RX9 57 "RangePropagatorModel" "lows" "[I", Cond.fieldLink RX9 72 "RangePropagatorModel" "joinLow" "[I", Cond.methodLink RX9 150 Lib.Math.max.name, Cond.static Lib.Math.max.name, Cond.initialized "java/lang/Math", Cond.code Lib.Math.max.name Lib.Math.max.code 2 (some .int), Cond.fieldLink RX9 60 "RangePropagatorModel" "highs" "[I", Cond.fieldLink RX9 75 "RangePropagatorModel" "joinHigh" "[I", Cond.methodLink RX9 147 Lib.Math.min.name, Cond.static Lib.Math.min.name, Cond.code Lib.Math.min.name Lib.Math.min.code 2 (some .int), Cond.methodLink RX9 174 yX9_gather, Cond.instanceMethod yX9_gather, Cond.selects RX9 yX9_gather yX9_gather, Cond.initialized RX9, Cond.code yX9_gather cX9_gather 4 none, Cond.fieldLink RX9 7 "RangePropagatorModel" "blocks" "I", Cond.fieldLink RX9 20 "RangePropagatorModel" "edges" "[I", Cond.fieldLink RX9 23 "RangePropagatorModel" "ups" "[I", Cond.fieldLink RX9 26 "RangePropagatorModel" "downs" "[I", Cond.fieldLink RX9 66 "RangePropagatorModel" "low" "[I", Cond.fieldLink RX9 38 "RangePropagatorModel" "firstLows" "[I"]
def wsX9_narrow_r2 : List Cond := [Cond.fieldLink RX9 69 "RangePropagatorModel" "high" "[I", Cond.fieldLink RX9 41 "RangePropagatorModel" "firstHighs" "[I", Cond.methodLink RX9 168 yX9_reach, Cond.instanceMethod yX9_reach, Cond.selects RX9 yX9_reach yX9_reach, Cond.code yX9_reach cX9_reach 6 (some .boolean), Cond.fieldLink RX9 29 "RangePropagatorModel" "xs" "[I", Cond.fieldLink RX9 32 "RangePropagatorModel" "ys" "[I", Cond.fieldLink RX9 35 "RangePropagatorModel" "relations" "[I", Cond.methodLink RX9 156 yX9_leave, Cond.instanceMethod yX9_leave, Cond.selects RX9 yX9_leave yX9_leave, Cond.code yX9_leave cX9_leave 3 none, Cond.fieldLink RX9 13 "RangePropagatorModel" "sizes" "[I", Cond.methodLink RX9 152 yX9_apply, Cond.instanceMethod yX9_apply, Cond.selects RX9 yX9_apply yX9_apply, Cond.code yX9_apply cX9_apply 5 none, Cond.fieldLink RX9 17 "RangePropagatorModel" "statements" "[I", Cond.methodLink RX9 139 yX9_set, Cond.instanceMethod yX9_set, Cond.selects RX9 yX9_set yX9_set, Cond.code yX9_set cX9_set 6 none, Cond.methodLink RX9 135 yX9_limited]
def wsX9_narrow_r3 : List Cond := [Cond.static yX9_limited, Cond.code yX9_limited cX9_limited 2 (some .int), Cond.constantLong RX9 122 (-1000000000), Cond.constantLong RX9 124 (1000000000), Cond.methodLink RX9 126 Lib.MathLoose.min_long.x, Cond.static Lib.MathLoose.min_long.x, Cond.code Lib.MathLoose.min_long.x Lib.MathLoose.min_long.code 4 (some .long), Cond.methodLink RX9 132 Lib.MathLoose.max_long.x, Cond.static Lib.MathLoose.max_long.x, Cond.code Lib.MathLoose.max_long.x Lib.MathLoose.max_long.code 4 (some .long), Cond.methodLink RX9 143 yX9_product, Cond.instanceMethod yX9_product, Cond.selects RX9 yX9_product yX9_product, Cond.code yX9_product cX9_product 12 none, Cond.methodLink RX9 159 yX9_opposite, Cond.static yX9_opposite, Cond.code yX9_opposite cX9_opposite 1 (some .int), Cond.methodLink RX9 162 yX9_refine, Cond.instanceMethod yX9_refine, Cond.selects RX9 yX9_refine yX9_refine, Cond.code yX9_refine cX9_refine 8 none, Cond.methodLink RX9 171 yX9_join, Cond.instanceMethod yX9_join, Cond.selects RX9 yX9_join yX9_join]
def wsX9_narrow_r4 : List Cond := [Cond.code yX9_join cX9_join 2 none]
def wsX9_narrow : List Cond := .code yX9_narrow cX9_narrow 4 none :: ((wsX9_narrow_r1 ++ (wsX9_narrow_r2 ++ (wsX9_narrow_r3 ++ wsX9_narrow_r4))) ++ wsX90)
def wsX9_analyze_r1 : List Cond := [Cond.fieldLink RX9 87 "RangePropagatorModel" "thrown" "I", Cond.fieldLink RX9 96 "RangePropagatorModel" "isMade" "Z", Cond.fieldLink RX9 53 "RangePropagatorModel" "isThere" "[Z", Cond.fieldLink RX9 63 "RangePropagatorModel" "visits" "[I", Cond.fieldLink RX9 7 "RangePropagatorModel" "blocks" "I", Cond.fieldLink RX9 47 "RangePropagatorModel" "narrowings" "I", Cond.methodLink RX9 183 yX9_look, Cond.instanceMethod yX9_look, Cond.selects RX9 yX9_look yX9_look, Cond.initialized RX9, Cond.code yX9_look cX9_look 8 (some .boolean), Cond.fieldLink RX9 165 "RangePropagatorModel" "hasJoin" "Z", Cond.fieldLink RX9 57 "RangePropagatorModel" "lows" "[I", Cond.fieldLink RX9 72 "RangePropagatorModel" "joinLow" "[I", Cond.methodLink RX9 147 Lib.Math.min.name, Cond.static Lib.Math.min.name, Cond.initialized "java/lang/Math", Cond.code Lib.Math.min.name Lib.Math.min.code 2 (some .int), Cond.fieldLink RX9 60 "RangePropagatorModel" "highs" "[I", Cond.fieldLink RX9 75 "RangePropagatorModel" "joinHigh" "[I", Cond.methodLink RX9 150 Lib.Math.max.name, Cond.static Lib.Math.max.name, Cond.code Lib.Math.max.name Lib.Math.max.code 2 (some .int), Cond.fieldLink RX9 44 "RangePropagatorModel" "delay" "I"]
def wsX9_analyze_r2 : List Cond := [Cond.methodLink RX9 174 yX9_gather, Cond.instanceMethod yX9_gather, Cond.selects RX9 yX9_gather yX9_gather, Cond.code yX9_gather cX9_gather 4 none, Cond.fieldLink RX9 20 "RangePropagatorModel" "edges" "[I", Cond.fieldLink RX9 23 "RangePropagatorModel" "ups" "[I", Cond.fieldLink RX9 26 "RangePropagatorModel" "downs" "[I", Cond.fieldLink RX9 66 "RangePropagatorModel" "low" "[I", Cond.fieldLink RX9 38 "RangePropagatorModel" "firstLows" "[I", Cond.fieldLink RX9 69 "RangePropagatorModel" "high" "[I", Cond.fieldLink RX9 41 "RangePropagatorModel" "firstHighs" "[I", Cond.methodLink RX9 168 yX9_reach, Cond.instanceMethod yX9_reach, Cond.selects RX9 yX9_reach yX9_reach, Cond.code yX9_reach cX9_reach 6 (some .boolean), Cond.fieldLink RX9 29 "RangePropagatorModel" "xs" "[I", Cond.fieldLink RX9 32 "RangePropagatorModel" "ys" "[I", Cond.fieldLink RX9 35 "RangePropagatorModel" "relations" "[I", Cond.methodLink RX9 156 yX9_leave, Cond.instanceMethod yX9_leave, Cond.selects RX9 yX9_leave yX9_leave, Cond.code yX9_leave cX9_leave 3 none, Cond.fieldLink RX9 13 "RangePropagatorModel" "sizes" "[I", Cond.methodLink RX9 152 yX9_apply]
def wsX9_analyze_r3 : List Cond := [Cond.instanceMethod yX9_apply, Cond.selects RX9 yX9_apply yX9_apply, Cond.code yX9_apply cX9_apply 5 none, Cond.fieldLink RX9 17 "RangePropagatorModel" "statements" "[I", Cond.methodLink RX9 139 yX9_set, Cond.instanceMethod yX9_set, Cond.selects RX9 yX9_set yX9_set, Cond.code yX9_set cX9_set 6 none, Cond.methodLink RX9 135 yX9_limited, Cond.static yX9_limited, Cond.code yX9_limited cX9_limited 2 (some .int), Cond.constantLong RX9 122 (-1000000000), Cond.constantLong RX9 124 (1000000000), Cond.methodLink RX9 126 Lib.MathLoose.min_long.x, Cond.static Lib.MathLoose.min_long.x, Cond.code Lib.MathLoose.min_long.x Lib.MathLoose.min_long.code 4 (some .long), Cond.methodLink RX9 132 Lib.MathLoose.max_long.x, Cond.static Lib.MathLoose.max_long.x, Cond.code Lib.MathLoose.max_long.x Lib.MathLoose.max_long.code 4 (some .long), Cond.methodLink RX9 143 yX9_product, Cond.instanceMethod yX9_product, Cond.selects RX9 yX9_product yX9_product, Cond.code yX9_product cX9_product 12 none, Cond.methodLink RX9 159 yX9_opposite]
def wsX9_analyze_r4 : List Cond := [Cond.static yX9_opposite, Cond.code yX9_opposite cX9_opposite 1 (some .int), Cond.methodLink RX9 162 yX9_refine, Cond.instanceMethod yX9_refine, Cond.selects RX9 yX9_refine yX9_refine, Cond.code yX9_refine cX9_refine 8 none, Cond.methodLink RX9 171 yX9_join, Cond.instanceMethod yX9_join, Cond.selects RX9 yX9_join yX9_join, Cond.code yX9_join cX9_join 2 none, Cond.methodLink RX9 177 yX9_below, Cond.instanceMethod yX9_below, Cond.selects RX9 yX9_below yX9_below, Cond.code yX9_below cX9_below 4 (some .int), Cond.constant RX9 90 (-1000000000), Cond.fieldLink RX9 119 "RangePropagatorModel" "thresholds" "I", Cond.fieldLink RX9 50 "RangePropagatorModel" "threshold" "[I", Cond.constant RX9 91 (1000000000), Cond.methodLink RX9 180 yX9_above, Cond.instanceMethod yX9_above, Cond.selects RX9 yX9_above yX9_above, Cond.code yX9_above cX9_above 4 (some .int), Cond.methodLink RX9 186 yX9_narrow, Cond.instanceMethod yX9_narrow]
def wsX9_analyze_r5 : List Cond := [Cond.selects RX9 yX9_narrow yX9_narrow, Cond.code yX9_narrow cX9_narrow 4 none]
def wsX9_analyze : List Cond := .code yX9_analyze cX9_analyze 5 (some .int) :: ((wsX9_analyze_r1 ++ (wsX9_analyze_r2 ++ (wsX9_analyze_r3 ++ (wsX9_analyze_r4 ++ wsX9_analyze_r5)))) ++ wsX90)
def wsX9_isAnalyzed : List Cond := .code yX9_isAnalyzed cX9_isAnalyzed 1 (some .boolean) :: ([.fieldLink RX9 87 "RangePropagatorModel" "thrown" "I", .fieldLink RX9 96 "RangePropagatorModel" "isMade" "Z"] ++ wsX90)
def wsX9_isReachable : List Cond := .code yX9_isReachable cX9_isReachable 2 (some .boolean) :: ([.fieldLink RX9 96 "RangePropagatorModel" "isMade" "Z", .fieldLink RX9 87 "RangePropagatorModel" "thrown" "I", .fieldLink RX9 53 "RangePropagatorModel" "isThere" "[Z", .methodLink RX9 108 yX9_isBlock, .instanceMethod yX9_isBlock, .selects RX9 yX9_isBlock yX9_isBlock, .initialized RX9, .code yX9_isBlock cX9_isBlock 2 (some .boolean), .fieldLink RX9 7 "RangePropagatorModel" "blocks" "I"] ++ wsX90)
def wsX9_asks : List Cond := .code yX9_asks cX9_asks 3 (some .boolean) :: ([.fieldLink RX9 96 "RangePropagatorModel" "isMade" "Z", .fieldLink RX9 53 "RangePropagatorModel" "isThere" "[Z", .fieldLink RX9 87 "RangePropagatorModel" "thrown" "I", .methodLink RX9 108 yX9_isBlock, .instanceMethod yX9_isBlock, .selects RX9 yX9_isBlock yX9_isBlock, .initialized RX9, .code yX9_isBlock cX9_isBlock 2 (some .boolean), .fieldLink RX9 7 "RangePropagatorModel" "blocks" "I", .methodLink RX9 100 yX9_isVariable, .static yX9_isVariable, .code yX9_isVariable cX9_isVariable 1 (some .boolean)] ++ wsX90)
def wsX9_entry : List Cond := .code yX9_entry cX9_entry 4 (some .int) :: ([.fieldLink RX9 60 "RangePropagatorModel" "highs" "[I", .fieldLink RX9 57 "RangePropagatorModel" "lows" "[I", .methodLink RX9 189 yX9_asks, .instanceMethod yX9_asks, .selects RX9 yX9_asks yX9_asks, .initialized RX9, .code yX9_asks cX9_asks 3 (some .boolean), .fieldLink RX9 96 "RangePropagatorModel" "isMade" "Z", .fieldLink RX9 53 "RangePropagatorModel" "isThere" "[Z", .fieldLink RX9 87 "RangePropagatorModel" "thrown" "I", .methodLink RX9 108 yX9_isBlock, .instanceMethod yX9_isBlock, .selects RX9 yX9_isBlock yX9_isBlock, .code yX9_isBlock cX9_isBlock 2 (some .boolean), .fieldLink RX9 7 "RangePropagatorModel" "blocks" "I", .methodLink RX9 100 yX9_isVariable, .static yX9_isVariable, .code yX9_isVariable cX9_isVariable 1 (some .boolean)] ++ wsX90)
def wsX9_exit_r1 : List Cond := [Cond.fieldLink RX9 69 "RangePropagatorModel" "high" "[I", Cond.fieldLink RX9 66 "RangePropagatorModel" "low" "[I", Cond.methodLink RX9 189 yX9_asks, Cond.instanceMethod yX9_asks, Cond.selects RX9 yX9_asks yX9_asks, Cond.initialized RX9, Cond.code yX9_asks cX9_asks 3 (some .boolean), Cond.fieldLink RX9 96 "RangePropagatorModel" "isMade" "Z", Cond.fieldLink RX9 53 "RangePropagatorModel" "isThere" "[Z", Cond.fieldLink RX9 87 "RangePropagatorModel" "thrown" "I", Cond.methodLink RX9 108 yX9_isBlock, Cond.instanceMethod yX9_isBlock, Cond.selects RX9 yX9_isBlock yX9_isBlock, Cond.code yX9_isBlock cX9_isBlock 2 (some .boolean), Cond.fieldLink RX9 7 "RangePropagatorModel" "blocks" "I", Cond.methodLink RX9 100 yX9_isVariable, Cond.static yX9_isVariable, Cond.code yX9_isVariable cX9_isVariable 1 (some .boolean), Cond.methodLink RX9 156 yX9_leave, Cond.instanceMethod yX9_leave, Cond.selects RX9 yX9_leave yX9_leave, Cond.code yX9_leave cX9_leave 3 none, Cond.fieldLink RX9 57 "RangePropagatorModel" "lows" "[I", Cond.fieldLink RX9 60 "RangePropagatorModel" "highs" "[I"]
def wsX9_exit_r2 : List Cond := [Cond.fieldLink RX9 13 "RangePropagatorModel" "sizes" "[I", Cond.methodLink RX9 152 yX9_apply, Cond.instanceMethod yX9_apply, Cond.selects RX9 yX9_apply yX9_apply, Cond.code yX9_apply cX9_apply 5 none, Cond.fieldLink RX9 17 "RangePropagatorModel" "statements" "[I", Cond.methodLink RX9 147 Lib.Math.min.name, Cond.static Lib.Math.min.name, Cond.initialized "java/lang/Math", Cond.code Lib.Math.min.name Lib.Math.min.code 2 (some .int), Cond.methodLink RX9 150 Lib.Math.max.name, Cond.static Lib.Math.max.name, Cond.code Lib.Math.max.name Lib.Math.max.code 2 (some .int), Cond.methodLink RX9 139 yX9_set, Cond.instanceMethod yX9_set, Cond.selects RX9 yX9_set yX9_set, Cond.code yX9_set cX9_set 6 none, Cond.methodLink RX9 135 yX9_limited, Cond.static yX9_limited, Cond.code yX9_limited cX9_limited 2 (some .int), Cond.constantLong RX9 122 (-1000000000), Cond.constantLong RX9 124 (1000000000), Cond.methodLink RX9 126 Lib.MathLoose.min_long.x, Cond.static Lib.MathLoose.min_long.x]
def wsX9_exit_r3 : List Cond := [Cond.code Lib.MathLoose.min_long.x Lib.MathLoose.min_long.code 4 (some .long), Cond.methodLink RX9 132 Lib.MathLoose.max_long.x, Cond.static Lib.MathLoose.max_long.x, Cond.code Lib.MathLoose.max_long.x Lib.MathLoose.max_long.code 4 (some .long), Cond.methodLink RX9 143 yX9_product, Cond.instanceMethod yX9_product, Cond.selects RX9 yX9_product yX9_product, Cond.code yX9_product cX9_product 12 none]
def wsX9_exit : List Cond := .code yX9_exit cX9_exit 4 (some .int) :: ((wsX9_exit_r1 ++ (wsX9_exit_r2 ++ wsX9_exit_r3)) ++ wsX90)
def wsX9_isDead_r1 : List Cond := [Cond.fieldLink RX9 96 "RangePropagatorModel" "isMade" "Z", Cond.fieldLink RX9 20 "RangePropagatorModel" "edges" "[I", Cond.fieldLink RX9 87 "RangePropagatorModel" "thrown" "I", Cond.methodLink RX9 108 yX9_isBlock, Cond.instanceMethod yX9_isBlock, Cond.selects RX9 yX9_isBlock yX9_isBlock, Cond.initialized RX9, Cond.code yX9_isBlock cX9_isBlock 2 (some .boolean), Cond.fieldLink RX9 7 "RangePropagatorModel" "blocks" "I", Cond.methodLink RX9 168 yX9_reach, Cond.instanceMethod yX9_reach, Cond.selects RX9 yX9_reach yX9_reach, Cond.code yX9_reach cX9_reach 6 (some .boolean), Cond.fieldLink RX9 53 "RangePropagatorModel" "isThere" "[Z", Cond.fieldLink RX9 29 "RangePropagatorModel" "xs" "[I", Cond.fieldLink RX9 32 "RangePropagatorModel" "ys" "[I", Cond.fieldLink RX9 35 "RangePropagatorModel" "relations" "[I", Cond.fieldLink RX9 66 "RangePropagatorModel" "low" "[I", Cond.fieldLink RX9 69 "RangePropagatorModel" "high" "[I", Cond.methodLink RX9 156 yX9_leave, Cond.instanceMethod yX9_leave, Cond.selects RX9 yX9_leave yX9_leave, Cond.code yX9_leave cX9_leave 3 none, Cond.fieldLink RX9 57 "RangePropagatorModel" "lows" "[I"]
def wsX9_isDead_r2 : List Cond := [Cond.fieldLink RX9 60 "RangePropagatorModel" "highs" "[I", Cond.fieldLink RX9 13 "RangePropagatorModel" "sizes" "[I", Cond.methodLink RX9 152 yX9_apply, Cond.instanceMethod yX9_apply, Cond.selects RX9 yX9_apply yX9_apply, Cond.code yX9_apply cX9_apply 5 none, Cond.fieldLink RX9 17 "RangePropagatorModel" "statements" "[I", Cond.methodLink RX9 147 Lib.Math.min.name, Cond.static Lib.Math.min.name, Cond.initialized "java/lang/Math", Cond.code Lib.Math.min.name Lib.Math.min.code 2 (some .int), Cond.methodLink RX9 150 Lib.Math.max.name, Cond.static Lib.Math.max.name, Cond.code Lib.Math.max.name Lib.Math.max.code 2 (some .int), Cond.methodLink RX9 139 yX9_set, Cond.instanceMethod yX9_set, Cond.selects RX9 yX9_set yX9_set, Cond.code yX9_set cX9_set 6 none, Cond.methodLink RX9 135 yX9_limited, Cond.static yX9_limited, Cond.code yX9_limited cX9_limited 2 (some .int), Cond.constantLong RX9 122 (-1000000000), Cond.constantLong RX9 124 (1000000000), Cond.methodLink RX9 126 Lib.MathLoose.min_long.x]
def wsX9_isDead_r3 : List Cond := [Cond.static Lib.MathLoose.min_long.x, Cond.code Lib.MathLoose.min_long.x Lib.MathLoose.min_long.code 4 (some .long), Cond.methodLink RX9 132 Lib.MathLoose.max_long.x, Cond.static Lib.MathLoose.max_long.x, Cond.code Lib.MathLoose.max_long.x Lib.MathLoose.max_long.code 4 (some .long), Cond.methodLink RX9 143 yX9_product, Cond.instanceMethod yX9_product, Cond.selects RX9 yX9_product yX9_product, Cond.code yX9_product cX9_product 12 none, Cond.methodLink RX9 159 yX9_opposite, Cond.static yX9_opposite, Cond.code yX9_opposite cX9_opposite 1 (some .int), Cond.methodLink RX9 162 yX9_refine, Cond.instanceMethod yX9_refine, Cond.selects RX9 yX9_refine yX9_refine, Cond.code yX9_refine cX9_refine 8 none]
def wsX9_isDead : List Cond := .code yX9_isDead cX9_isDead 3 (some .boolean) :: ((wsX9_isDead_r1 ++ (wsX9_isDead_r2 ++ wsX9_isDead_r3)) ++ wsX90)
def wsX9_deadEdges_r1 : List Cond := [Cond.fieldLink RX9 96 "RangePropagatorModel" "isMade" "Z", Cond.fieldLink RX9 87 "RangePropagatorModel" "thrown" "I", Cond.fieldLink RX9 7 "RangePropagatorModel" "blocks" "I", Cond.fieldLink RX9 20 "RangePropagatorModel" "edges" "[I", Cond.fieldLink RX9 53 "RangePropagatorModel" "isThere" "[Z", Cond.methodLink RX9 168 yX9_reach, Cond.instanceMethod yX9_reach, Cond.selects RX9 yX9_reach yX9_reach, Cond.initialized RX9, Cond.code yX9_reach cX9_reach 6 (some .boolean), Cond.fieldLink RX9 29 "RangePropagatorModel" "xs" "[I", Cond.fieldLink RX9 32 "RangePropagatorModel" "ys" "[I", Cond.fieldLink RX9 35 "RangePropagatorModel" "relations" "[I", Cond.fieldLink RX9 66 "RangePropagatorModel" "low" "[I", Cond.fieldLink RX9 69 "RangePropagatorModel" "high" "[I", Cond.methodLink RX9 156 yX9_leave, Cond.instanceMethod yX9_leave, Cond.selects RX9 yX9_leave yX9_leave, Cond.code yX9_leave cX9_leave 3 none, Cond.fieldLink RX9 57 "RangePropagatorModel" "lows" "[I", Cond.fieldLink RX9 60 "RangePropagatorModel" "highs" "[I", Cond.fieldLink RX9 13 "RangePropagatorModel" "sizes" "[I", Cond.methodLink RX9 152 yX9_apply, Cond.instanceMethod yX9_apply]
def wsX9_deadEdges_r2 : List Cond := [Cond.selects RX9 yX9_apply yX9_apply, Cond.code yX9_apply cX9_apply 5 none, Cond.fieldLink RX9 17 "RangePropagatorModel" "statements" "[I", Cond.methodLink RX9 147 Lib.Math.min.name, Cond.static Lib.Math.min.name, Cond.initialized "java/lang/Math", Cond.code Lib.Math.min.name Lib.Math.min.code 2 (some .int), Cond.methodLink RX9 150 Lib.Math.max.name, Cond.static Lib.Math.max.name, Cond.code Lib.Math.max.name Lib.Math.max.code 2 (some .int), Cond.methodLink RX9 139 yX9_set, Cond.instanceMethod yX9_set, Cond.selects RX9 yX9_set yX9_set, Cond.code yX9_set cX9_set 6 none, Cond.methodLink RX9 135 yX9_limited, Cond.static yX9_limited, Cond.code yX9_limited cX9_limited 2 (some .int), Cond.constantLong RX9 122 (-1000000000), Cond.constantLong RX9 124 (1000000000), Cond.methodLink RX9 126 Lib.MathLoose.min_long.x, Cond.static Lib.MathLoose.min_long.x, Cond.code Lib.MathLoose.min_long.x Lib.MathLoose.min_long.code 4 (some .long), Cond.methodLink RX9 132 Lib.MathLoose.max_long.x, Cond.static Lib.MathLoose.max_long.x]
def wsX9_deadEdges_r3 : List Cond := [Cond.code Lib.MathLoose.max_long.x Lib.MathLoose.max_long.code 4 (some .long), Cond.methodLink RX9 143 yX9_product, Cond.instanceMethod yX9_product, Cond.selects RX9 yX9_product yX9_product, Cond.code yX9_product cX9_product 12 none, Cond.methodLink RX9 159 yX9_opposite, Cond.static yX9_opposite, Cond.code yX9_opposite cX9_opposite 1 (some .int), Cond.methodLink RX9 162 yX9_refine, Cond.instanceMethod yX9_refine, Cond.selects RX9 yX9_refine yX9_refine, Cond.code yX9_refine cX9_refine 8 none]
def wsX9_deadEdges : List Cond := .code yX9_deadEdges cX9_deadEdges 4 (some .int) :: ((wsX9_deadEdges_r1 ++ (wsX9_deadEdges_r2 ++ wsX9_deadEdges_r3)) ++ wsX90)
def wsX9_constants_r1 : List Cond := [Cond.fieldLink RX9 96 "RangePropagatorModel" "isMade" "Z", Cond.fieldLink RX9 87 "RangePropagatorModel" "thrown" "I", Cond.fieldLink RX9 53 "RangePropagatorModel" "isThere" "[Z", Cond.fieldLink RX9 66 "RangePropagatorModel" "low" "[I", Cond.fieldLink RX9 69 "RangePropagatorModel" "high" "[I", Cond.methodLink RX9 108 yX9_isBlock, Cond.instanceMethod yX9_isBlock, Cond.selects RX9 yX9_isBlock yX9_isBlock, Cond.initialized RX9, Cond.code yX9_isBlock cX9_isBlock 2 (some .boolean), Cond.fieldLink RX9 7 "RangePropagatorModel" "blocks" "I", Cond.methodLink RX9 156 yX9_leave, Cond.instanceMethod yX9_leave, Cond.selects RX9 yX9_leave yX9_leave, Cond.code yX9_leave cX9_leave 3 none, Cond.fieldLink RX9 57 "RangePropagatorModel" "lows" "[I", Cond.fieldLink RX9 60 "RangePropagatorModel" "highs" "[I", Cond.fieldLink RX9 13 "RangePropagatorModel" "sizes" "[I", Cond.methodLink RX9 152 yX9_apply, Cond.instanceMethod yX9_apply, Cond.selects RX9 yX9_apply yX9_apply, Cond.code yX9_apply cX9_apply 5 none, Cond.fieldLink RX9 17 "RangePropagatorModel" "statements" "[I", Cond.methodLink RX9 147 Lib.Math.min.name]
def wsX9_constants_r2 : List Cond := [Cond.static Lib.Math.min.name, Cond.initialized "java/lang/Math", Cond.code Lib.Math.min.name Lib.Math.min.code 2 (some .int), Cond.methodLink RX9 150 Lib.Math.max.name, Cond.static Lib.Math.max.name, Cond.code Lib.Math.max.name Lib.Math.max.code 2 (some .int), Cond.methodLink RX9 139 yX9_set, Cond.instanceMethod yX9_set, Cond.selects RX9 yX9_set yX9_set, Cond.code yX9_set cX9_set 6 none, Cond.methodLink RX9 135 yX9_limited, Cond.static yX9_limited, Cond.code yX9_limited cX9_limited 2 (some .int), Cond.constantLong RX9 122 (-1000000000), Cond.constantLong RX9 124 (1000000000), Cond.methodLink RX9 126 Lib.MathLoose.min_long.x, Cond.static Lib.MathLoose.min_long.x, Cond.code Lib.MathLoose.min_long.x Lib.MathLoose.min_long.code 4 (some .long), Cond.methodLink RX9 132 Lib.MathLoose.max_long.x, Cond.static Lib.MathLoose.max_long.x, Cond.code Lib.MathLoose.max_long.x Lib.MathLoose.max_long.code 4 (some .long), Cond.methodLink RX9 143 yX9_product, Cond.instanceMethod yX9_product, Cond.selects RX9 yX9_product yX9_product]
def wsX9_constants_r3 : List Cond := [Cond.code yX9_product cX9_product 12 none]
def wsX9_constants : List Cond := .code yX9_constants cX9_constants 4 (some .int) :: ((wsX9_constants_r1 ++ (wsX9_constants_r2 ++ wsX9_constants_r3)) ++ wsX90)
def wsX9_visits : List Cond := .code yX9_visits cX9_visits 2 (some .int) :: ([.fieldLink RX9 96 "RangePropagatorModel" "isMade" "Z", .fieldLink RX9 87 "RangePropagatorModel" "thrown" "I", .fieldLink RX9 63 "RangePropagatorModel" "visits" "[I", .methodLink RX9 108 yX9_isBlock, .instanceMethod yX9_isBlock, .selects RX9 yX9_isBlock yX9_isBlock, .initialized RX9, .code yX9_isBlock cX9_isBlock 2 (some .boolean), .fieldLink RX9 7 "RangePropagatorModel" "blocks" "I"] ++ wsX90)
def wsX9_draw : List Cond := .code yX9_draw cX9_draw 7 (some .int) :: ([.fieldLink RX9 192 "RangePropagatorModel" "\x72" "J", .constantLong RX9 196 (6364136223846793005), .constantLong RX9 198 (1442695040888963407)] ++ wsX90)
def wsX9_valueOf_r1 : List Cond := [Cond.fieldLink RX9 17 "RangePropagatorModel" "statements" "[I", Cond.fieldLink RX9 84 "RangePropagatorModel" "results" "[I", Cond.methodLink RX9 147 Lib.Math.min.name, Cond.static Lib.Math.min.name, Cond.initialized "java/lang/Math", Cond.code Lib.Math.min.name Lib.Math.min.code 2 (some .int), Cond.methodLink RX9 150 Lib.Math.max.name, Cond.static Lib.Math.max.name, Cond.code Lib.Math.max.name Lib.Math.max.code 2 (some .int), Cond.methodLink RX9 135 yX9_limited, Cond.static yX9_limited, Cond.initialized RX9, Cond.code yX9_limited cX9_limited 2 (some .int), Cond.constantLong RX9 122 (-1000000000), Cond.constantLong RX9 124 (1000000000), Cond.methodLink RX9 126 Lib.MathLoose.min_long.x, Cond.static Lib.MathLoose.min_long.x, Cond.code Lib.MathLoose.min_long.x Lib.MathLoose.min_long.code 4 (some .long), Cond.methodLink RX9 132 Lib.MathLoose.max_long.x, Cond.static Lib.MathLoose.max_long.x, Cond.code Lib.MathLoose.max_long.x Lib.MathLoose.max_long.code 4 (some .long), Cond.methodLink RX9 200 yX9_draw, Cond.instanceMethod yX9_draw, Cond.selects RX9 yX9_draw yX9_draw]
def wsX9_valueOf_r2 : List Cond := [Cond.code yX9_draw cX9_draw 7 (some .int), Cond.fieldLink RX9 192 "RangePropagatorModel" "\x72" "J", Cond.constantLong RX9 196 (6364136223846793005), Cond.constantLong RX9 198 (1442695040888963407)]
def wsX9_valueOf : List Cond := .code yX9_valueOf cX9_valueOf 4 (some .int) :: ((wsX9_valueOf_r1 ++ wsX9_valueOf_r2) ++ wsX90)
def wsX9_isTrue : List Cond := .code yX9_isTrue cX9_isTrue 4 (some .boolean) :: ([.fieldLink RX9 84 "RangePropagatorModel" "results" "[I", .fieldLink RX9 29 "RangePropagatorModel" "xs" "[I", .fieldLink RX9 32 "RangePropagatorModel" "ys" "[I", .fieldLink RX9 35 "RangePropagatorModel" "relations" "[I"] ++ wsX90)
def wsX9_run_r1 : List Cond := [Cond.fieldLink RX9 87 "RangePropagatorModel" "thrown" "I", Cond.fieldLink RX9 192 "RangePropagatorModel" "\x72" "J", Cond.fieldLink RX9 84 "RangePropagatorModel" "results" "[I", Cond.fieldLink RX9 38 "RangePropagatorModel" "firstLows" "[I", Cond.fieldLink RX9 41 "RangePropagatorModel" "firstHighs" "[I", Cond.fieldLink RX9 203 "RangePropagatorModel" "steps" "I", Cond.fieldLink RX9 78 "RangePropagatorModel" "entered" "[I", Cond.fieldLink RX9 81 "RangePropagatorModel" "enteredWith" "[I", Cond.fieldLink RX9 13 "RangePropagatorModel" "sizes" "[I", Cond.fieldLink RX9 17 "RangePropagatorModel" "statements" "[I", Cond.fieldLink RX9 20 "RangePropagatorModel" "edges" "[I", Cond.fieldLink RX9 23 "RangePropagatorModel" "ups" "[I", Cond.fieldLink RX9 26 "RangePropagatorModel" "downs" "[I", Cond.methodLink RX9 92 yX9_fail, Cond.instanceMethod yX9_fail, Cond.selects RX9 yX9_fail yX9_fail, Cond.initialized RX9, Cond.code yX9_fail cX9_fail 2 (some .int), Cond.methodLink RX9 200 yX9_draw, Cond.instanceMethod yX9_draw, Cond.selects RX9 yX9_draw yX9_draw, Cond.code yX9_draw cX9_draw 7 (some .int), Cond.constantLong RX9 196 (6364136223846793005), Cond.constantLong RX9 198 (1442695040888963407)]
def wsX9_run_r2 : List Cond := [Cond.methodLink RX9 206 yX9_valueOf, Cond.instanceMethod yX9_valueOf, Cond.selects RX9 yX9_valueOf yX9_valueOf, Cond.code yX9_valueOf cX9_valueOf 4 (some .int), Cond.methodLink RX9 147 Lib.Math.min.name, Cond.static Lib.Math.min.name, Cond.initialized "java/lang/Math", Cond.code Lib.Math.min.name Lib.Math.min.code 2 (some .int), Cond.methodLink RX9 150 Lib.Math.max.name, Cond.static Lib.Math.max.name, Cond.code Lib.Math.max.name Lib.Math.max.code 2 (some .int), Cond.methodLink RX9 135 yX9_limited, Cond.static yX9_limited, Cond.code yX9_limited cX9_limited 2 (some .int), Cond.constantLong RX9 122 (-1000000000), Cond.constantLong RX9 124 (1000000000), Cond.methodLink RX9 126 Lib.MathLoose.min_long.x, Cond.static Lib.MathLoose.min_long.x, Cond.code Lib.MathLoose.min_long.x Lib.MathLoose.min_long.code 4 (some .long), Cond.methodLink RX9 132 Lib.MathLoose.max_long.x, Cond.static Lib.MathLoose.max_long.x, Cond.code Lib.MathLoose.max_long.x Lib.MathLoose.max_long.code 4 (some .long), Cond.methodLink RX9 209 yX9_isTrue, Cond.instanceMethod yX9_isTrue]
def wsX9_run_r3 : List Cond := [Cond.selects RX9 yX9_isTrue yX9_isTrue, Cond.code yX9_isTrue cX9_isTrue 4 (some .boolean), Cond.fieldLink RX9 29 "RangePropagatorModel" "xs" "[I", Cond.fieldLink RX9 32 "RangePropagatorModel" "ys" "[I", Cond.fieldLink RX9 35 "RangePropagatorModel" "relations" "[I"]
def wsX9_run : List Cond := .code yX9_run cX9_run 7 (some .int) :: ((wsX9_run_r1 ++ (wsX9_run_r2 ++ wsX9_run_r3)) ++ wsX90)
def wsX9_enteredBlock : List Cond := .code yX9_enteredBlock cX9_enteredBlock 2 (some .int) :: ([.fieldLink RX9 87 "RangePropagatorModel" "thrown" "I", .fieldLink RX9 203 "RangePropagatorModel" "steps" "I", .fieldLink RX9 78 "RangePropagatorModel" "entered" "[I", .methodLink RX9 92 yX9_fail, .instanceMethod yX9_fail, .selects RX9 yX9_fail yX9_fail, .initialized RX9, .code yX9_fail cX9_fail 2 (some .int)] ++ wsX90)
def wsX9_enteredWith : List Cond := .code yX9_enteredWith cX9_enteredWith 3 (some .int) :: ([.fieldLink RX9 87 "RangePropagatorModel" "thrown" "I", .fieldLink RX9 203 "RangePropagatorModel" "steps" "I", .fieldLink RX9 81 "RangePropagatorModel" "enteredWith" "[I", .methodLink RX9 100 yX9_isVariable, .static yX9_isVariable, .initialized RX9, .code yX9_isVariable cX9_isVariable 1 (some .boolean), .methodLink RX9 92 yX9_fail, .instanceMethod yX9_fail, .selects RX9 yX9_fail yX9_fail, .code yX9_fail cX9_fail 2 (some .int)] ++ wsX90)
def wsX9_result : List Cond := .code yX9_result cX9_result 2 (some .int) :: ([.fieldLink RX9 87 "RangePropagatorModel" "thrown" "I", .fieldLink RX9 84 "RangePropagatorModel" "results" "[I", .methodLink RX9 100 yX9_isVariable, .static yX9_isVariable, .initialized RX9, .code yX9_isVariable cX9_isVariable 1 (some .boolean), .methodLink RX9 92 yX9_fail, .instanceMethod yX9_fail, .selects RX9 yX9_fail yX9_fail, .code yX9_fail cX9_fail 2 (some .int)] ++ wsX90)
def wsX9_digest : List Cond := .code yX9_digest cX9_digest 5 (some .long) :: ([.fieldLink RX9 87 "RangePropagatorModel" "thrown" "I", .constantLong RX9 212 (2759), .fieldLink RX9 7 "RangePropagatorModel" "blocks" "I", .constantLong RX9 214 (31), .fieldLink RX9 13 "RangePropagatorModel" "sizes" "[I", .fieldLink RX9 20 "RangePropagatorModel" "edges" "[I", .fieldLink RX9 44 "RangePropagatorModel" "delay" "I", .fieldLink RX9 47 "RangePropagatorModel" "narrowings" "I", .fieldLink RX9 119 "RangePropagatorModel" "thresholds" "I", .fieldLink RX9 96 "RangePropagatorModel" "isMade" "Z", .fieldLink RX9 63 "RangePropagatorModel" "visits" "[I", .fieldLink RX9 53 "RangePropagatorModel" "isThere" "[Z", .fieldLink RX9 57 "RangePropagatorModel" "lows" "[I", .fieldLink RX9 60 "RangePropagatorModel" "highs" "[I", .fieldLink RX9 84 "RangePropagatorModel" "results" "[I"] ++ wsX90)
def wsJ9_max_7cf53 : List Cond := .code yJ9_max_7cf53 cJ9_max_7cf53 2 (some .int) :: ([])
def wsJ9_max_f86c9 : List Cond := .code yJ9_max_f86c9 cJ9_max_f86c9 4 (some .long) :: ([])
def wsJ9_min_7cf53 : List Cond := .code yJ9_min_7cf53 cJ9_min_7cf53 2 (some .int) :: ([])
def wsJ9_min_f86c9 : List Cond := .code yJ9_min_f86c9 cJ9_min_f86c9 4 (some .long) :: ([])
def wsL_addBlock : List Cond := .codeWith yL_addBlock cL_addBlock 3 (some .int) [(0, 8, 11, 13)] :: ([.classLink RL 13 "java/lang/IllegalStateException", .methodLink RL 7 yX8_addBlock, .instanceMethod yX8_addBlock, .selects RX8 yX8_addBlock yX8_addBlock, .initialized RX8, .code yX8_addBlock cX8_addBlock 1 (some .int), .classLink RX8 45 "java/lang/IllegalStateException", .initialized "java/lang/IllegalStateException", .fieldLink RX8 10 "RangePropagato\x72" "program" "LRangePropagator$Program;", .fieldLink RX8 41 "RangePropagator$Program" "count" "I", .fieldLink RX8 37 "RangePropagato\x72" "analysisStands" "Z"] ++ wsX80 ++ wsX50 ++ (vx_atS RX8 49 "java/lang/IllegalStateException" ["java/lang/RuntimeException", "java/lang/Exception"]).filter goodWord)
def wsL_setInitial_r1 : List Cond := [Cond.classLink RL 19 "java/lang/IndexOutOfBoundsException", Cond.classLink RL 21 "java/lang/IllegalArgumentException", Cond.methodLink RL 15 yX8_setInitial, Cond.instanceMethod yX8_setInitial, Cond.selects RX8 yX8_setInitial yX8_setInitial, Cond.initialized RX8, Cond.code yX8_setInitial cX8_setInitial 6 (some .boolean), Cond.fieldLink RX8 37 "RangePropagato\x72" "analysisStands" "Z", Cond.fieldLink RX8 10 "RangePropagato\x72" "program" "LRangePropagator$Program;", Cond.fieldLink RX8 60 "RangePropagator$Program" "initial" "LRangePropagator$State;", Cond.fieldLink RX8 64 "RangePropagator$State" "low" "[I", Cond.fieldLink RX8 70 "RangePropagator$State" "high" "[I", Cond.methodLink RX8 52 yX8_requireVariable, Cond.static yX8_requireVariable, Cond.code yX8_requireVariable cX8_requireVariable 1 none, Cond.classLink RX8 171 "java/lang/IndexOutOfBoundsException", Cond.initialized "java/lang/IndexOutOfBoundsException", Cond.methodLink RX8 56 yX8_requireRange, Cond.static yX8_requireRange, Cond.code yX8_requireRange cX8_requireRange 2 none, Cond.classLink RX8 93 "java/lang/IllegalArgumentException", Cond.initialized "java/lang/IllegalArgumentException", Cond.constant RX8 126 (-1000000000), Cond.constant RX8 127 (1000000000)]
def wsL_setInitial_r2 : List Cond := [Cond.methodLink RX8 73 yX7_setRange, Cond.instanceMethod yX7_setRange, Cond.selects RX7 yX7_setRange yX7_setRange, Cond.initialized RX7, Cond.code yX7_setRange cX7_setRange 4 none, Cond.fieldLink RX7 15 "RangePropagator$State" "low" "[I", Cond.fieldLink RX7 19 "RangePropagator$State" "high" "[I"]
def wsL_setInitial : List Cond := .codeWith yL_setInitial cL_setInitial 6 (some .int) [(0, 19, 22, 19), (0, 19, 26, 21)] :: ((wsL_setInitial_r1 ++ wsL_setInitial_r2) ++ wsX80 ++ wsX50 ++ wsX70 ++ (vx_atS RX8 175 "java/lang/IndexOutOfBoundsException" ["java/lang/RuntimeException", "java/lang/Exception"]).filter goodWord ++ (vx_atS RX8 97 "java/lang/IllegalArgumentException" ["java/lang/RuntimeException", "java/lang/Exception"]).filter goodWord)
def wsL_input_r1 : List Cond := [Cond.classLink RL 19 "java/lang/IndexOutOfBoundsException", Cond.classLink RL 21 "java/lang/IllegalArgumentException", Cond.classLink RL 13 "java/lang/IllegalStateException", Cond.methodLink RL 23 yX8_input, Cond.instanceMethod yX8_input, Cond.selects RX8 yX8_input yX8_input, Cond.initialized RX8, Cond.code yX8_input cX8_input 5 (some .int), Cond.fieldLink RX8 37 "RangePropagato\x72" "analysisStands" "Z", Cond.fieldLink RX8 10 "RangePropagato\x72" "program" "LRangePropagator$Program;", Cond.fieldLink RX8 83 "RangePropagator$Program" "blocks" "[LRangePropagator$Block;", Cond.methodLink RX8 77 yX8_requireBlock, Cond.instanceMethod yX8_requireBlock, Cond.selects RX8 yX8_requireBlock yX8_requireBlock, Cond.code yX8_requireBlock cX8_requireBlock 2 none, Cond.classLink RX8 171 "java/lang/IndexOutOfBoundsException", Cond.initialized "java/lang/IndexOutOfBoundsException", Cond.fieldLink RX8 41 "RangePropagator$Program" "count" "I", Cond.methodLink RX8 52 yX8_requireVariable, Cond.static yX8_requireVariable, Cond.code yX8_requireVariable cX8_requireVariable 1 none, Cond.methodLink RX8 56 yX8_requireRange, Cond.static yX8_requireRange, Cond.code yX8_requireRange cX8_requireRange 2 none]
def wsL_input_r2 : List Cond := [Cond.classLink RX8 93 "java/lang/IllegalArgumentException", Cond.initialized "java/lang/IllegalArgumentException", Cond.constant RX8 126 (-1000000000), Cond.constant RX8 127 (1000000000), Cond.methodLink RX8 80 yX8_requireRoom, Cond.instanceMethod yX8_requireRoom, Cond.selects RX8 yX8_requireRoom yX8_requireRoom, Cond.code yX8_requireRoom cX8_requireRoom 2 none, Cond.classLink RX8 45 "java/lang/IllegalStateException", Cond.initialized "java/lang/IllegalStateException", Cond.fieldLink RX8 110 "RangePropagator$Block" "statementCount" "I", Cond.methodLink RX8 87 yX2_append, Cond.instanceMethod yX2_append, Cond.selects RX2 yX2_append yX2_append, Cond.initialized RX2, Cond.code yX2_append cX2_append 6 (some .int), Cond.fieldLink RX2 9 "RangePropagator$Block" "statementCount" "I", Cond.fieldLink RX2 15 "RangePropagator$Block" "kinds" "[I", Cond.fieldLink RX2 19 "RangePropagator$Block" "targets" "[I", Cond.fieldLink RX2 22 "RangePropagator$Block" "firsts" "[I", Cond.fieldLink RX2 25 "RangePropagator$Block" "seconds" "[I"]
def wsL_input : List Cond := .codeWith yL_input cL_input 7 (some .int) [(0, 14, 17, 19), (0, 14, 21, 21), (0, 14, 25, 13)] :: ((wsL_input_r1 ++ wsL_input_r2) ++ wsX80 ++ wsX50 ++ wsX20 ++ (vx_atS RX8 175 "java/lang/IndexOutOfBoundsException" ["java/lang/RuntimeException", "java/lang/Exception"]).filter goodWord ++ (vx_atS RX8 97 "java/lang/IllegalArgumentException" ["java/lang/RuntimeException", "java/lang/Exception"]).filter goodWord ++ (vx_atS RX8 49 "java/lang/IllegalStateException" ["java/lang/RuntimeException", "java/lang/Exception"]).filter goodWord)
def wsL_compute_r1 : List Cond := [Cond.classLink RL 19 "java/lang/IndexOutOfBoundsException", Cond.classLink RL 21 "java/lang/IllegalArgumentException", Cond.classLink RL 13 "java/lang/IllegalStateException", Cond.methodLink RL 27 yX8_compute, Cond.instanceMethod yX8_compute, Cond.selects RX8 yX8_compute yX8_compute, Cond.initialized RX8, Cond.code yX8_compute cX8_compute 6 (some .int), Cond.classLink RX8 93 "java/lang/IllegalArgumentException", Cond.initialized "java/lang/IllegalArgumentException", Cond.fieldLink RX8 37 "RangePropagato\x72" "analysisStands" "Z", Cond.fieldLink RX8 10 "RangePropagato\x72" "program" "LRangePropagator$Program;", Cond.fieldLink RX8 83 "RangePropagator$Program" "blocks" "[LRangePropagator$Block;", Cond.methodLink RX8 77 yX8_requireBlock, Cond.instanceMethod yX8_requireBlock, Cond.selects RX8 yX8_requireBlock yX8_requireBlock, Cond.code yX8_requireBlock cX8_requireBlock 2 none, Cond.classLink RX8 171 "java/lang/IndexOutOfBoundsException", Cond.initialized "java/lang/IndexOutOfBoundsException", Cond.fieldLink RX8 41 "RangePropagator$Program" "count" "I", Cond.methodLink RX8 52 yX8_requireVariable, Cond.static yX8_requireVariable, Cond.code yX8_requireVariable cX8_requireVariable 1 none, Cond.methodLink RX8 80 yX8_requireRoom]
def wsL_compute_r2 : List Cond := [Cond.instanceMethod yX8_requireRoom, Cond.selects RX8 yX8_requireRoom yX8_requireRoom, Cond.code yX8_requireRoom cX8_requireRoom 2 none, Cond.classLink RX8 45 "java/lang/IllegalStateException", Cond.initialized "java/lang/IllegalStateException", Cond.fieldLink RX8 110 "RangePropagator$Block" "statementCount" "I", Cond.methodLink RX8 87 yX2_append, Cond.instanceMethod yX2_append, Cond.selects RX2 yX2_append yX2_append, Cond.initialized RX2, Cond.code yX2_append cX2_append 6 (some .int), Cond.fieldLink RX2 9 "RangePropagator$Block" "statementCount" "I", Cond.fieldLink RX2 15 "RangePropagator$Block" "kinds" "[I", Cond.fieldLink RX2 19 "RangePropagator$Block" "targets" "[I", Cond.fieldLink RX2 22 "RangePropagator$Block" "firsts" "[I", Cond.fieldLink RX2 25 "RangePropagator$Block" "seconds" "[I"]
def wsL_compute : List Cond := .codeWith yL_compute cL_compute 8 (some .int) [(0, 16, 19, 19), (0, 16, 23, 21), (0, 16, 27, 13)] :: ((wsL_compute_r1 ++ wsL_compute_r2) ++ wsX80 ++ wsX50 ++ wsX20 ++ (vx_atS RX8 97 "java/lang/IllegalArgumentException" ["java/lang/RuntimeException", "java/lang/Exception"]).filter goodWord ++ (vx_atS RX8 175 "java/lang/IndexOutOfBoundsException" ["java/lang/RuntimeException", "java/lang/Exception"]).filter goodWord ++ (vx_atS RX8 49 "java/lang/IllegalStateException" ["java/lang/RuntimeException", "java/lang/Exception"]).filter goodWord)
def wsL_jump : List Cond := .codeWith yL_jump cL_jump 5 (some .int) [(0, 10, 13, 19)] :: ([.classLink RL 19 "java/lang/IndexOutOfBoundsException", .methodLink RL 31 yX8_jump, .instanceMethod yX8_jump, .selects RX8 yX8_jump yX8_jump, .initialized RX8, .code yX8_jump cX8_jump 5 (some .int), .fieldLink RX8 37 "RangePropagato\x72" "analysisStands" "Z", .fieldLink RX8 10 "RangePropagato\x72" "program" "LRangePropagator$Program;", .fieldLink RX8 83 "RangePropagator$Program" "blocks" "[LRangePropagator$Block;", .fieldLink RX8 98 "RangePropagator$Block" "edgeCount" "I", .methodLink RX8 77 yX8_requireBlock, .instanceMethod yX8_requireBlock, .selects RX8 yX8_requireBlock yX8_requireBlock, .code yX8_requireBlock cX8_requireBlock 2 none, .classLink RX8 171 "java/lang/IndexOutOfBoundsException", .initialized "java/lang/IndexOutOfBoundsException", .fieldLink RX8 41 "RangePropagator$Program" "count" "I", .methodLink RX8 101 yX2_endWithJump, .instanceMethod yX2_endWithJump, .selects RX2 yX2_endWithJump yX2_endWithJump, .initialized RX2, .code yX2_endWithJump cX2_endWithJump 2 none, .fieldLink RX2 28 "RangePropagator$Block" "edgeCount" "I", .fieldLink RX2 31 "RangePropagator$Block" "followers" "[I"] ++ wsX80 ++ wsX50 ++ wsX20 ++ (vx_atS RX8 175 "java/lang/IndexOutOfBoundsException" ["java/lang/RuntimeException", "java/lang/Exception"]).filter goodWord)
def wsL_branch_r1 : List Cond := [Cond.classLink RL 19 "java/lang/IndexOutOfBoundsException", Cond.classLink RL 21 "java/lang/IllegalArgumentException", Cond.methodLink RL 35 yX8_branch, Cond.instanceMethod yX8_branch, Cond.selects RX8 yX8_branch yX8_branch, Cond.initialized RX8, Cond.code yX8_branch cX8_branch 9 (some .int), Cond.classLink RX8 93 "java/lang/IllegalArgumentException", Cond.initialized "java/lang/IllegalArgumentException", Cond.fieldLink RX8 37 "RangePropagato\x72" "analysisStands" "Z", Cond.fieldLink RX8 10 "RangePropagato\x72" "program" "LRangePropagator$Program;", Cond.fieldLink RX8 83 "RangePropagator$Program" "blocks" "[LRangePropagator$Block;", Cond.fieldLink RX8 98 "RangePropagator$Block" "edgeCount" "I", Cond.methodLink RX8 77 yX8_requireBlock, Cond.instanceMethod yX8_requireBlock, Cond.selects RX8 yX8_requireBlock yX8_requireBlock, Cond.code yX8_requireBlock cX8_requireBlock 2 none, Cond.classLink RX8 171 "java/lang/IndexOutOfBoundsException", Cond.initialized "java/lang/IndexOutOfBoundsException", Cond.fieldLink RX8 41 "RangePropagator$Program" "count" "I", Cond.methodLink RX8 52 yX8_requireVariable, Cond.static yX8_requireVariable, Cond.code yX8_requireVariable cX8_requireVariable 1 none, Cond.methodLink RX8 106 yX2_endWithBranch]
def wsL_branch_r2 : List Cond := [Cond.instanceMethod yX2_endWithBranch, Cond.selects RX2 yX2_endWithBranch yX2_endWithBranch, Cond.initialized RX2, Cond.code yX2_endWithBranch cX2_endWithBranch 6 none, Cond.fieldLink RX2 28 "RangePropagator$Block" "edgeCount" "I", Cond.fieldLink RX2 34 "RangePropagator$Block" "branchX" "I", Cond.fieldLink RX2 40 "RangePropagator$Block" "relation" "I", Cond.fieldLink RX2 37 "RangePropagator$Block" "branchY" "I", Cond.fieldLink RX2 31 "RangePropagator$Block" "followers" "[I"]
def wsL_branch : List Cond := .codeWith yL_branch cL_branch 9 (some .int) [(0, 18, 21, 19), (0, 18, 25, 21)] :: ((wsL_branch_r1 ++ wsL_branch_r2) ++ wsX80 ++ wsX50 ++ wsX20 ++ (vx_atS RX8 97 "java/lang/IllegalArgumentException" ["java/lang/RuntimeException", "java/lang/Exception"]).filter goodWord ++ (vx_atS RX8 175 "java/lang/IndexOutOfBoundsException" ["java/lang/RuntimeException", "java/lang/Exception"]).filter goodWord)
def wsL_clear : List Cond := .codeWith yL_clear cL_clear 4 (some .int) [(0, 9, 12, 19)] :: ([.classLink RL 19 "java/lang/IndexOutOfBoundsException", .methodLink RL 39 yX8_clear, .instanceMethod yX8_clear, .selects RX8 yX8_clear yX8_clear, .initialized RX8, .code yX8_clear cX8_clear 4 (some .int), .fieldLink RX8 37 "RangePropagato\x72" "analysisStands" "Z", .fieldLink RX8 10 "RangePropagato\x72" "program" "LRangePropagator$Program;", .fieldLink RX8 83 "RangePropagator$Program" "blocks" "[LRangePropagator$Block;", .fieldLink RX8 110 "RangePropagator$Block" "statementCount" "I", .methodLink RX8 77 yX8_requireBlock, .instanceMethod yX8_requireBlock, .selects RX8 yX8_requireBlock yX8_requireBlock, .code yX8_requireBlock cX8_requireBlock 2 none, .classLink RX8 171 "java/lang/IndexOutOfBoundsException", .initialized "java/lang/IndexOutOfBoundsException", .fieldLink RX8 41 "RangePropagator$Program" "count" "I", .methodLink RX8 113 yX2_makeEmpty, .instanceMethod yX2_makeEmpty, .selects RX2 yX2_makeEmpty yX2_makeEmpty, .initialized RX2, .code yX2_makeEmpty cX2_makeEmpty 1 none, .fieldLink RX2 9 "RangePropagator$Block" "statementCount" "I", .fieldLink RX2 28 "RangePropagator$Block" "edgeCount" "I"] ++ wsX80 ++ wsX50 ++ wsX20 ++ (vx_atS RX8 175 "java/lang/IndexOutOfBoundsException" ["java/lang/RuntimeException", "java/lang/Exception"]).filter goodWord)
def wsL_setEffort : List Cond := .codeWith yL_setEffort cL_setEffort 5 (some .int) [(0, 17, 20, 21)] :: ([.classLink RL 21 "java/lang/IllegalArgumentException", .methodLink RL 43 yX8_setEffort, .instanceMethod yX8_setEffort, .selects RX8 yX8_setEffort yX8_setEffort, .initialized RX8, .code yX8_setEffort cX8_setEffort 4 (some .boolean), .classLink RX8 93 "java/lang/IllegalArgumentException", .initialized "java/lang/IllegalArgumentException", .fieldLink RX8 37 "RangePropagato\x72" "analysisStands" "Z", .fieldLink RX8 19 "RangePropagato\x72" "settings" "LRangePropagator$Settings;", .fieldLink RX8 120 "RangePropagator$Settings" "delay" "I", .fieldLink RX8 123 "RangePropagator$Settings" "narrowings" "I"] ++ wsX80 ++ wsX60 ++ (vx_atS RX8 97 "java/lang/IllegalArgumentException" ["java/lang/RuntimeException", "java/lang/Exception"]).filter goodWord)
def wsL_addThreshold : List Cond := .codeWith yL_addThreshold cL_addThreshold 4 (some .int) [(0, 9, 12, 21), (0, 9, 15, 13)] :: ([.classLink RL 21 "java/lang/IllegalArgumentException", .classLink RL 13 "java/lang/IllegalStateException", .methodLink RL 47 yX8_addThreshold, .instanceMethod yX8_addThreshold, .selects RX8 yX8_addThreshold yX8_addThreshold, .initialized RX8, .code yX8_addThreshold cX8_addThreshold 2 (some .int), .classLink RX8 93 "java/lang/IllegalArgumentException", .initialized "java/lang/IllegalArgumentException", .classLink RX8 45 "java/lang/IllegalStateException", .initialized "java/lang/IllegalStateException", .constant RX8 126 (-1000000000), .constant RX8 127 (1000000000), .fieldLink RX8 19 "RangePropagato\x72" "settings" "LRangePropagator$Settings;", .fieldLink RX8 130 "RangePropagator$Settings" "thresholdCount" "I", .fieldLink RX8 37 "RangePropagato\x72" "analysisStands" "Z", .methodLink RX8 135 yX6_keepThreshold, .instanceMethod yX6_keepThreshold, .selects RX6 yX6_keepThreshold yX6_keepThreshold, .initialized RX6, .code yX6_keepThreshold cX6_keepThreshold 3 none, .fieldLink RX6 18 "RangePropagator$Settings" "thresholdCount" "I", .fieldLink RX6 21 "RangePropagator$Settings" "thresholds" "[I"] ++ wsX80 ++ wsX60 ++ (vx_atS RX8 97 "java/lang/IllegalArgumentException" ["java/lang/RuntimeException", "java/lang/Exception"]).filter goodWord ++ (vx_atS RX8 49 "java/lang/IllegalStateException" ["java/lang/RuntimeException", "java/lang/Exception"]).filter goodWord)
def wsL_isReachable_r1 : List Cond := [Cond.classLink RL 13 "java/lang/IllegalStateException", Cond.classLink RL 19 "java/lang/IndexOutOfBoundsException", Cond.methodLink RL 50 yX8_isReachable, Cond.instanceMethod yX8_isReachable, Cond.selects RX8 yX8_isReachable yX8_isReachable, Cond.initialized RX8, Cond.code yX8_isReachable cX8_isReachable 2 (some .boolean), Cond.fieldLink RX8 26 "RangePropagato\x72" "analysis" "LRangePropagator$Analysis;", Cond.fieldLink RX8 152 "RangePropagator$Analysis" "flows" "[LRangePropagator$Flow;", Cond.fieldLink RX8 156 "RangePropagator$Flow" "entryState" "LRangePropagator$State;", Cond.fieldLink RX8 161 "RangePropagator$State" "isNone" "Z", Cond.methodLink RX8 149 yX8_requireAnalysis, Cond.instanceMethod yX8_requireAnalysis, Cond.selects RX8 yX8_requireAnalysis yX8_requireAnalysis, Cond.code yX8_requireAnalysis cX8_requireAnalysis 1 none, Cond.classLink RX8 45 "java/lang/IllegalStateException", Cond.initialized "java/lang/IllegalStateException", Cond.fieldLink RX8 37 "RangePropagato\x72" "analysisStands" "Z", Cond.methodLink RX8 77 yX8_requireBlock, Cond.instanceMethod yX8_requireBlock, Cond.selects RX8 yX8_requireBlock yX8_requireBlock, Cond.code yX8_requireBlock cX8_requireBlock 2 none, Cond.classLink RX8 171 "java/lang/IndexOutOfBoundsException", Cond.initialized "java/lang/IndexOutOfBoundsException"]
def wsL_isReachable_r2 : List Cond := [Cond.fieldLink RX8 10 "RangePropagato\x72" "program" "LRangePropagator$Program;", Cond.fieldLink RX8 41 "RangePropagator$Program" "count" "I"]
def wsL_isReachable : List Cond := .codeWith yL_isReachable cL_isReachable 4 (some .int) [(0, 16, 19, 13), (0, 16, 22, 19)] :: ((wsL_isReachable_r1 ++ wsL_isReachable_r2) ++ wsX80 ++ wsX00 ++ wsX40 ++ wsX70 ++ wsX50 ++ (vx_atS RX8 49 "java/lang/IllegalStateException" ["java/lang/RuntimeException", "java/lang/Exception"]).filter goodWord ++ (vx_atS RX8 175 "java/lang/IndexOutOfBoundsException" ["java/lang/RuntimeException", "java/lang/Exception"]).filter goodWord)
def wsL_entry_r1 : List Cond := [Cond.classLink RL 13 "java/lang/IllegalStateException", Cond.classLink RL 19 "java/lang/IndexOutOfBoundsException", Cond.classLink RL 58 "java/util/NoSuchElementException", Cond.methodLink RL 54 yX8_entry, Cond.instanceMethod yX8_entry, Cond.selects RX8 yX8_entry yX8_entry, Cond.initialized RX8, Cond.code yX8_entry cX8_entry 4 (some .int), Cond.fieldLink RX8 26 "RangePropagato\x72" "analysis" "LRangePropagator$Analysis;", Cond.fieldLink RX8 152 "RangePropagator$Analysis" "flows" "[LRangePropagator$Flow;", Cond.fieldLink RX8 156 "RangePropagator$Flow" "entryState" "LRangePropagator$State;", Cond.methodLink RX8 149 yX8_requireAnalysis, Cond.instanceMethod yX8_requireAnalysis, Cond.selects RX8 yX8_requireAnalysis yX8_requireAnalysis, Cond.code yX8_requireAnalysis cX8_requireAnalysis 1 none, Cond.classLink RX8 45 "java/lang/IllegalStateException", Cond.initialized "java/lang/IllegalStateException", Cond.fieldLink RX8 37 "RangePropagato\x72" "analysisStands" "Z", Cond.methodLink RX8 77 yX8_requireBlock, Cond.instanceMethod yX8_requireBlock, Cond.selects RX8 yX8_requireBlock yX8_requireBlock, Cond.code yX8_requireBlock cX8_requireBlock 2 none, Cond.classLink RX8 171 "java/lang/IndexOutOfBoundsException", Cond.initialized "java/lang/IndexOutOfBoundsException"]
def wsL_entry_r2 : List Cond := [Cond.fieldLink RX8 10 "RangePropagato\x72" "program" "LRangePropagator$Program;", Cond.fieldLink RX8 41 "RangePropagator$Program" "count" "I", Cond.methodLink RX8 52 yX8_requireVariable, Cond.static yX8_requireVariable, Cond.code yX8_requireVariable cX8_requireVariable 1 none, Cond.methodLink RX8 164 yX8_endOfRange, Cond.static yX8_endOfRange, Cond.code yX8_endOfRange cX8_endOfRange 3 (some .int), Cond.classLink RX8 227 "java/util/NoSuchElementException", Cond.initialized "java/util/NoSuchElementException", Cond.fieldLink RX8 161 "RangePropagator$State" "isNone" "Z", Cond.fieldLink RX8 70 "RangePropagator$State" "high" "[I", Cond.fieldLink RX8 64 "RangePropagator$State" "low" "[I"]
def wsL_entry : List Cond := .codeWith yL_entry cL_entry 6 (some .int) [(0, 12, 15, 13), (0, 12, 19, 19), (0, 12, 23, 58)] :: ((wsL_entry_r1 ++ wsL_entry_r2) ++ wsX80 ++ wsX00 ++ wsX40 ++ wsX50 ++ wsX70 ++ (vx_atS RX8 49 "java/lang/IllegalStateException" ["java/lang/RuntimeException", "java/lang/Exception"]).filter goodWord ++ (vx_atS RX8 175 "java/lang/IndexOutOfBoundsException" ["java/lang/RuntimeException", "java/lang/Exception"]).filter goodWord ++ nxA.filter goodWord)
def wsL_exit_r1 : List Cond := [Cond.classLink RL 13 "java/lang/IllegalStateException", Cond.classLink RL 19 "java/lang/IndexOutOfBoundsException", Cond.classLink RL 58 "java/util/NoSuchElementException", Cond.methodLink RL 60 yX8_exit, Cond.instanceMethod yX8_exit, Cond.selects RX8 yX8_exit yX8_exit, Cond.initialized RX8, Cond.code yX8_exit cX8_exit 4 (some .int), Cond.fieldLink RX8 26 "RangePropagato\x72" "analysis" "LRangePropagator$Analysis;", Cond.fieldLink RX8 152 "RangePropagator$Analysis" "flows" "[LRangePropagator$Flow;", Cond.fieldLink RX8 168 "RangePropagator$Flow" "exitState" "LRangePropagator$State;", Cond.methodLink RX8 149 yX8_requireAnalysis, Cond.instanceMethod yX8_requireAnalysis, Cond.selects RX8 yX8_requireAnalysis yX8_requireAnalysis, Cond.code yX8_requireAnalysis cX8_requireAnalysis 1 none, Cond.classLink RX8 45 "java/lang/IllegalStateException", Cond.initialized "java/lang/IllegalStateException", Cond.fieldLink RX8 37 "RangePropagato\x72" "analysisStands" "Z", Cond.methodLink RX8 77 yX8_requireBlock, Cond.instanceMethod yX8_requireBlock, Cond.selects RX8 yX8_requireBlock yX8_requireBlock, Cond.code yX8_requireBlock cX8_requireBlock 2 none, Cond.classLink RX8 171 "java/lang/IndexOutOfBoundsException", Cond.initialized "java/lang/IndexOutOfBoundsException"]
def wsL_exit_r2 : List Cond := [Cond.fieldLink RX8 10 "RangePropagato\x72" "program" "LRangePropagator$Program;", Cond.fieldLink RX8 41 "RangePropagator$Program" "count" "I", Cond.methodLink RX8 52 yX8_requireVariable, Cond.static yX8_requireVariable, Cond.code yX8_requireVariable cX8_requireVariable 1 none, Cond.methodLink RX8 164 yX8_endOfRange, Cond.static yX8_endOfRange, Cond.code yX8_endOfRange cX8_endOfRange 3 (some .int), Cond.classLink RX8 227 "java/util/NoSuchElementException", Cond.initialized "java/util/NoSuchElementException", Cond.fieldLink RX8 161 "RangePropagator$State" "isNone" "Z", Cond.fieldLink RX8 70 "RangePropagator$State" "high" "[I", Cond.fieldLink RX8 64 "RangePropagator$State" "low" "[I"]
def wsL_exit : List Cond := .codeWith yL_exit cL_exit 6 (some .int) [(0, 12, 15, 13), (0, 12, 19, 19), (0, 12, 23, 58)] :: ((wsL_exit_r1 ++ wsL_exit_r2) ++ wsX80 ++ wsX00 ++ wsX40 ++ wsX50 ++ wsX70 ++ (vx_atS RX8 49 "java/lang/IllegalStateException" ["java/lang/RuntimeException", "java/lang/Exception"]).filter goodWord ++ (vx_atS RX8 175 "java/lang/IndexOutOfBoundsException" ["java/lang/RuntimeException", "java/lang/Exception"]).filter goodWord ++ nxA.filter goodWord)
def wsL_isDead_r1 : List Cond := [Cond.classLink RL 13 "java/lang/IllegalStateException", Cond.classLink RL 19 "java/lang/IndexOutOfBoundsException", Cond.methodLink RL 63 yX8_isDead, Cond.instanceMethod yX8_isDead, Cond.selects RX8 yX8_isDead yX8_isDead, Cond.initialized RX8, Cond.code yX8_isDead cX8_isDead 3 (some .boolean), Cond.classLink RX8 171 "java/lang/IndexOutOfBoundsException", Cond.initialized "java/lang/IndexOutOfBoundsException", Cond.fieldLink RX8 10 "RangePropagato\x72" "program" "LRangePropagator$Program;", Cond.fieldLink RX8 83 "RangePropagator$Program" "blocks" "[LRangePropagator$Block;", Cond.fieldLink RX8 98 "RangePropagator$Block" "edgeCount" "I", Cond.fieldLink RX8 26 "RangePropagato\x72" "analysis" "LRangePropagator$Analysis;", Cond.fieldLink RX8 152 "RangePropagator$Analysis" "flows" "[LRangePropagator$Flow;", Cond.fieldLink RX8 176 "RangePropagator$Flow" "edgeStates" "[LRangePropagator$State;", Cond.fieldLink RX8 161 "RangePropagator$State" "isNone" "Z", Cond.methodLink RX8 149 yX8_requireAnalysis, Cond.instanceMethod yX8_requireAnalysis, Cond.selects RX8 yX8_requireAnalysis yX8_requireAnalysis, Cond.code yX8_requireAnalysis cX8_requireAnalysis 1 none, Cond.classLink RX8 45 "java/lang/IllegalStateException", Cond.initialized "java/lang/IllegalStateException", Cond.fieldLink RX8 37 "RangePropagato\x72" "analysisStands" "Z", Cond.methodLink RX8 77 yX8_requireBlock]
def wsL_isDead_r2 : List Cond := [Cond.instanceMethod yX8_requireBlock, Cond.selects RX8 yX8_requireBlock yX8_requireBlock, Cond.code yX8_requireBlock cX8_requireBlock 2 none, Cond.fieldLink RX8 41 "RangePropagator$Program" "count" "I"]
def wsL_isDead : List Cond := .codeWith yL_isDead cL_isDead 5 (some .int) [(0, 17, 20, 13), (0, 17, 24, 19)] :: ((wsL_isDead_r1 ++ wsL_isDead_r2) ++ wsX80 ++ wsX50 ++ wsX20 ++ wsX00 ++ wsX40 ++ wsX70 ++ (vx_atS RX8 175 "java/lang/IndexOutOfBoundsException" ["java/lang/RuntimeException", "java/lang/Exception"]).filter goodWord ++ (vx_atS RX8 49 "java/lang/IllegalStateException" ["java/lang/RuntimeException", "java/lang/Exception"]).filter goodWord)
def wsL_deadEdges_r1 : List Cond := [Cond.classLink RL 13 "java/lang/IllegalStateException", Cond.methodLink RL 66 yX8_deadEdges, Cond.instanceMethod yX8_deadEdges, Cond.selects RX8 yX8_deadEdges yX8_deadEdges, Cond.initialized RX8, Cond.code yX8_deadEdges cX8_deadEdges 3 (some .int), Cond.fieldLink RX8 10 "RangePropagato\x72" "program" "LRangePropagator$Program;", Cond.fieldLink RX8 41 "RangePropagator$Program" "count" "I", Cond.fieldLink RX8 26 "RangePropagato\x72" "analysis" "LRangePropagator$Analysis;", Cond.fieldLink RX8 152 "RangePropagator$Analysis" "flows" "[LRangePropagator$Flow;", Cond.fieldLink RX8 83 "RangePropagator$Program" "blocks" "[LRangePropagator$Block;", Cond.fieldLink RX8 98 "RangePropagator$Block" "edgeCount" "I", Cond.methodLink RX8 149 yX8_requireAnalysis, Cond.instanceMethod yX8_requireAnalysis, Cond.selects RX8 yX8_requireAnalysis yX8_requireAnalysis, Cond.code yX8_requireAnalysis cX8_requireAnalysis 1 none, Cond.classLink RX8 45 "java/lang/IllegalStateException", Cond.initialized "java/lang/IllegalStateException", Cond.fieldLink RX8 37 "RangePropagato\x72" "analysisStands" "Z", Cond.methodLink RX8 180 yX4_countDeadEdges, Cond.instanceMethod yX4_countDeadEdges, Cond.selects RX4 yX4_countDeadEdges yX4_countDeadEdges, Cond.initialized RX4, Cond.code yX4_countDeadEdges cX4_countDeadEdges 4 (some .int)]
def wsL_deadEdges_r2 : List Cond := [Cond.fieldLink RX4 12 "RangePropagator$Flow" "entryState" "LRangePropagator$State;", Cond.fieldLink RX4 29 "RangePropagator$State" "isNone" "Z", Cond.fieldLink RX4 21 "RangePropagator$Flow" "edgeStates" "[LRangePropagator$State;"]
def wsL_deadEdges : List Cond := .codeWith yL_deadEdges cL_deadEdges 3 (some .int) [(0, 8, 11, 13)] :: ((wsL_deadEdges_r1 ++ wsL_deadEdges_r2) ++ wsX80 ++ wsX50 ++ wsX00 ++ wsX20 ++ wsX40 ++ wsX70 ++ (vx_atS RX8 49 "java/lang/IllegalStateException" ["java/lang/RuntimeException", "java/lang/Exception"]).filter goodWord)
def wsL_constants_r1 : List Cond := [Cond.classLink RL 13 "java/lang/IllegalStateException", Cond.classLink RL 19 "java/lang/IndexOutOfBoundsException", Cond.methodLink RL 69 yX8_constants, Cond.instanceMethod yX8_constants, Cond.selects RX8 yX8_constants yX8_constants, Cond.initialized RX8, Cond.code yX8_constants cX8_constants 2 (some .int), Cond.fieldLink RX8 26 "RangePropagato\x72" "analysis" "LRangePropagator$Analysis;", Cond.fieldLink RX8 152 "RangePropagator$Analysis" "flows" "[LRangePropagator$Flow;", Cond.fieldLink RX8 168 "RangePropagator$Flow" "exitState" "LRangePropagator$State;", Cond.methodLink RX8 149 yX8_requireAnalysis, Cond.instanceMethod yX8_requireAnalysis, Cond.selects RX8 yX8_requireAnalysis yX8_requireAnalysis, Cond.code yX8_requireAnalysis cX8_requireAnalysis 1 none, Cond.classLink RX8 45 "java/lang/IllegalStateException", Cond.initialized "java/lang/IllegalStateException", Cond.fieldLink RX8 37 "RangePropagato\x72" "analysisStands" "Z", Cond.methodLink RX8 77 yX8_requireBlock, Cond.instanceMethod yX8_requireBlock, Cond.selects RX8 yX8_requireBlock yX8_requireBlock, Cond.code yX8_requireBlock cX8_requireBlock 2 none, Cond.classLink RX8 171 "java/lang/IndexOutOfBoundsException", Cond.initialized "java/lang/IndexOutOfBoundsException", Cond.fieldLink RX8 10 "RangePropagato\x72" "program" "LRangePropagator$Program;"]
def wsL_constants_r2 : List Cond := [Cond.fieldLink RX8 41 "RangePropagator$Program" "count" "I", Cond.methodLink RX8 184 yX7_countConstants, Cond.instanceMethod yX7_countConstants, Cond.selects RX7 yX7_countConstants yX7_countConstants, Cond.initialized RX7, Cond.code yX7_countConstants cX7_countConstants 3 (some .int), Cond.fieldLink RX7 9 "RangePropagator$State" "isNone" "Z", Cond.methodLink RX7 41 yX7_isConstant, Cond.instanceMethod yX7_isConstant, Cond.selects RX7 yX7_isConstant yX7_isConstant, Cond.code yX7_isConstant cX7_isConstant 2 (some .boolean), Cond.fieldLink RX7 15 "RangePropagator$State" "low" "[I", Cond.fieldLink RX7 19 "RangePropagator$State" "high" "[I"]
def wsL_constants : List Cond := .codeWith yL_constants cL_constants 4 (some .int) [(0, 9, 12, 13), (0, 9, 15, 19)] :: ((wsL_constants_r1 ++ wsL_constants_r2) ++ wsX80 ++ wsX00 ++ wsX40 ++ wsX50 ++ wsX70 ++ (vx_atS RX8 49 "java/lang/IllegalStateException" ["java/lang/RuntimeException", "java/lang/Exception"]).filter goodWord ++ (vx_atS RX8 175 "java/lang/IndexOutOfBoundsException" ["java/lang/RuntimeException", "java/lang/Exception"]).filter goodWord)
def wsL_visits_r1 : List Cond := [Cond.classLink RL 13 "java/lang/IllegalStateException", Cond.classLink RL 19 "java/lang/IndexOutOfBoundsException", Cond.methodLink RL 72 yX8_visits, Cond.instanceMethod yX8_visits, Cond.selects RX8 yX8_visits yX8_visits, Cond.initialized RX8, Cond.code yX8_visits cX8_visits 2 (some .int), Cond.fieldLink RX8 26 "RangePropagato\x72" "analysis" "LRangePropagator$Analysis;", Cond.fieldLink RX8 152 "RangePropagator$Analysis" "flows" "[LRangePropagator$Flow;", Cond.fieldLink RX8 188 "RangePropagator$Flow" "visitCount" "I", Cond.methodLink RX8 149 yX8_requireAnalysis, Cond.instanceMethod yX8_requireAnalysis, Cond.selects RX8 yX8_requireAnalysis yX8_requireAnalysis, Cond.code yX8_requireAnalysis cX8_requireAnalysis 1 none, Cond.classLink RX8 45 "java/lang/IllegalStateException", Cond.initialized "java/lang/IllegalStateException", Cond.fieldLink RX8 37 "RangePropagato\x72" "analysisStands" "Z", Cond.methodLink RX8 77 yX8_requireBlock, Cond.instanceMethod yX8_requireBlock, Cond.selects RX8 yX8_requireBlock yX8_requireBlock, Cond.code yX8_requireBlock cX8_requireBlock 2 none, Cond.classLink RX8 171 "java/lang/IndexOutOfBoundsException", Cond.initialized "java/lang/IndexOutOfBoundsException", Cond.fieldLink RX8 10 "RangePropagato\x72" "program" "LRangePropagator$Program;"]
def wsL_visits_r2 : List Cond := [Cond.fieldLink RX8 41 "RangePropagator$Program" "count" "I"]
def wsL_visits : List Cond := .codeWith yL_visits cL_visits 4 (some .int) [(0, 9, 12, 13), (0, 9, 15, 19)] :: ((wsL_visits_r1 ++ wsL_visits_r2) ++ wsX80 ++ wsX00 ++ wsX40 ++ wsX50 ++ (vx_atS RX8 49 "java/lang/IllegalStateException" ["java/lang/RuntimeException", "java/lang/Exception"]).filter goodWord ++ (vx_atS RX8 175 "java/lang/IndexOutOfBoundsException" ["java/lang/RuntimeException", "java/lang/Exception"]).filter goodWord)
def wsL_run_r1 : List Cond := [Cond.classLink RL 21 "java/lang/IllegalArgumentException", Cond.methodLink RL 75 yX8_run, Cond.instanceMethod yX8_run, Cond.selects RX8 yX8_run yX8_run, Cond.initialized RX8, Cond.code yX8_run cX8_run 4 (some .int), Cond.classLink RX8 93 "java/lang/IllegalArgumentException", Cond.initialized "java/lang/IllegalArgumentException", Cond.fieldLink RX8 33 "RangePropagato\x72" "execution" "LRangePropagator$Execution;", Cond.fieldLink RX8 10 "RangePropagato\x72" "program" "LRangePropagator$Program;", Cond.fieldLink RX8 197 "RangePropagator$Execution" "stepCount" "I", Cond.methodLink RX8 193 yX3_execute, Cond.instanceMethod yX3_execute, Cond.selects RX3 yX3_execute yX3_execute, Cond.initialized RX3, Cond.code yX3_execute cX3_execute 9 none, Cond.fieldLink RX3 25 "RangePropagator$Execution" "\x72" "J", Cond.fieldLink RX3 29 "RangePropagator$Program" "initial" "LRangePropagator$State;", Cond.fieldLink RX3 9 "RangePropagator$Execution" "values" "[I", Cond.fieldLink RX3 35 "RangePropagator$State" "low" "[I", Cond.fieldLink RX3 40 "RangePropagator$State" "high" "[I", Cond.fieldLink RX3 21 "RangePropagator$Execution" "stepCount" "I", Cond.fieldLink RX3 47 "RangePropagator$Program" "blocks" "[LRangePropagator$Block;", Cond.fieldLink RX3 59 "RangePropagator$Block" "edgeCount" "I"]
def wsL_run_r2 : List Cond := [Cond.methodLink RX3 43 yX3_choose, Cond.instanceMethod yX3_choose, Cond.selects RX3 yX3_choose yX3_choose, Cond.code yX3_choose cX3_choose 7 (some .int), Cond.constantLong RX3 120 (6364136223846793005), Cond.constantLong RX3 122 (1442695040888963407), Cond.methodLink RX3 114 yJ9_floorMod_f86c9, Cond.static yJ9_floorMod_f86c9, Cond.initialized RJ9, Cond.code yJ9_floorMod_f86c9 cJ9_floorMod_f86c9 6 (some .long), Cond.methodLink RX3 51 yX3_noteStep, Cond.instanceMethod yX3_noteStep, Cond.selects RX3 yX3_noteStep yX3_noteStep, Cond.code yX3_noteStep cX3_noteStep 3 none, Cond.fieldLink RX3 15 "RangePropagator$Execution" "stepBlocks" "[I", Cond.fieldLink RX3 18 "RangePropagator$Execution" "stepValues" "[I", Cond.methodLink RX3 68 arraycopyName, Cond.native arraycopyName, Cond.static arraycopyName, Cond.initialized "java/lang/System", Cond.methodLink RX3 55 yX3_perform, Cond.instanceMethod yX3_perform, Cond.selects RX3 yX3_perform yX3_perform, Cond.code yX3_perform cX3_perform 3 none]
def wsL_run_r3 : List Cond := [Cond.fieldLink RX3 74 "RangePropagator$Block" "statementCount" "I", Cond.fieldLink RX3 77 "RangePropagator$Block" "targets" "[I", Cond.fieldLink RX3 80 "RangePropagator$Block" "kinds" "[I", Cond.fieldLink RX3 83 "RangePropagator$Block" "firsts" "[I", Cond.fieldLink RX3 86 "RangePropagator$Block" "seconds" "[I", Cond.methodLink RX3 89 yX3_outcomeOf, Cond.instanceMethod yX3_outcomeOf, Cond.selects RX3 yX3_outcomeOf yX3_outcomeOf, Cond.code yX3_outcomeOf cX3_outcomeOf 4 (some .int), Cond.methodLink RX3 93 yX1_outcome, Cond.static yX1_outcome, Cond.initialized RX1, Cond.code yX1_outcome cX1_outcome 5 (some .int), Cond.methodLink RX1 9 Lib.Math.min.name, Cond.static Lib.Math.min.name, Cond.initialized "java/lang/Math", Cond.code Lib.Math.min.name Lib.Math.min.code 2 (some .int), Cond.methodLink RX1 15 Lib.Math.max.name, Cond.static Lib.Math.max.name, Cond.code Lib.Math.max.name Lib.Math.max.code 2 (some .int), Cond.constantLong RX1 18 (-1000000000), Cond.constantLong RX1 20 (1000000000), Cond.methodLink RX1 22 Lib.MathLoose.min_long.x, Cond.static Lib.MathLoose.min_long.x]
def wsL_run_r4 : List Cond := [Cond.code Lib.MathLoose.min_long.x Lib.MathLoose.min_long.code 4 (some .long), Cond.methodLink RX1 25 Lib.MathLoose.max_long.x, Cond.static Lib.MathLoose.max_long.x, Cond.code Lib.MathLoose.max_long.x Lib.MathLoose.max_long.code 4 (some .long), Cond.methodLink RX3 64 yX3_follower, Cond.instanceMethod yX3_follower, Cond.selects RX3 yX3_follower yX3_follower, Cond.code yX3_follower cX3_follower 3 (some .int), Cond.fieldLink RX3 98 "RangePropagator$Block" "followers" "[I", Cond.fieldLink RX3 101 "RangePropagator$Block" "branchX" "I", Cond.fieldLink RX3 104 "RangePropagator$Block" "relation" "I", Cond.fieldLink RX3 107 "RangePropagator$Block" "branchY" "I", Cond.methodLink RX3 110 yX1_isTrue, Cond.static yX1_isTrue, Cond.code yX1_isTrue cX1_isTrue 3 (some .boolean)]
def wsL_run : List Cond := .codeWith yL_run cL_run 6 (some .int) [(0, 11, 14, 21)] :: ((wsL_run_r1 ++ (wsL_run_r2 ++ (wsL_run_r3 ++ wsL_run_r4))) ++ wsX80 ++ wsX30 ++ wsX50 ++ wsX70 ++ wsX20 ++ (vx_atS RX8 97 "java/lang/IllegalArgumentException" ["java/lang/RuntimeException", "java/lang/Exception"]).filter goodWord)
def wsL_enteredBlock : List Cond := .codeWith yL_enteredBlock cL_enteredBlock 4 (some .int) [(0, 9, 12, 19)] :: ([.classLink RL 19 "java/lang/IndexOutOfBoundsException", .methodLink RL 79 yX8_enteredBlock, .instanceMethod yX8_enteredBlock, .selects RX8 yX8_enteredBlock yX8_enteredBlock, .initialized RX8, .code yX8_enteredBlock cX8_enteredBlock 2 (some .int), .fieldLink RX8 33 "RangePropagato\x72" "execution" "LRangePropagator$Execution;", .fieldLink RX8 203 "RangePropagator$Execution" "stepBlocks" "[I", .methodLink RX8 200 yX8_requireStep, .instanceMethod yX8_requireStep, .selects RX8 yX8_requireStep yX8_requireStep, .code yX8_requireStep cX8_requireStep 2 none, .classLink RX8 171 "java/lang/IndexOutOfBoundsException", .initialized "java/lang/IndexOutOfBoundsException", .fieldLink RX8 197 "RangePropagator$Execution" "stepCount" "I"] ++ wsX80 ++ wsX30 ++ (vx_atS RX8 175 "java/lang/IndexOutOfBoundsException" ["java/lang/RuntimeException", "java/lang/Exception"]).filter goodWord)
def wsL_enteredWith : List Cond := .codeWith yL_enteredWith cL_enteredWith 5 (some .int) [(0, 10, 13, 19)] :: ([.classLink RL 19 "java/lang/IndexOutOfBoundsException", .methodLink RL 82 yX8_enteredWith, .instanceMethod yX8_enteredWith, .selects RX8 yX8_enteredWith yX8_enteredWith, .initialized RX8, .code yX8_enteredWith cX8_enteredWith 3 (some .int), .fieldLink RX8 33 "RangePropagato\x72" "execution" "LRangePropagator$Execution;", .fieldLink RX8 206 "RangePropagator$Execution" "stepValues" "[I", .methodLink RX8 200 yX8_requireStep, .instanceMethod yX8_requireStep, .selects RX8 yX8_requireStep yX8_requireStep, .code yX8_requireStep cX8_requireStep 2 none, .classLink RX8 171 "java/lang/IndexOutOfBoundsException", .initialized "java/lang/IndexOutOfBoundsException", .fieldLink RX8 197 "RangePropagator$Execution" "stepCount" "I", .methodLink RX8 52 yX8_requireVariable, .static yX8_requireVariable, .code yX8_requireVariable cX8_requireVariable 1 none] ++ wsX80 ++ wsX30 ++ (vx_atS RX8 175 "java/lang/IndexOutOfBoundsException" ["java/lang/RuntimeException", "java/lang/Exception"]).filter goodWord)
def wsL_result : List Cond := .codeWith yL_result cL_result 4 (some .int) [(0, 9, 12, 19)] :: ([.classLink RL 19 "java/lang/IndexOutOfBoundsException", .methodLink RL 85 yX8_result, .instanceMethod yX8_result, .selects RX8 yX8_result yX8_result, .initialized RX8, .code yX8_result cX8_result 2 (some .int), .fieldLink RX8 33 "RangePropagato\x72" "execution" "LRangePropagator$Execution;", .fieldLink RX8 209 "RangePropagator$Execution" "values" "[I", .methodLink RX8 52 yX8_requireVariable, .static yX8_requireVariable, .code yX8_requireVariable cX8_requireVariable 1 none, .classLink RX8 171 "java/lang/IndexOutOfBoundsException", .initialized "java/lang/IndexOutOfBoundsException"] ++ wsX80 ++ wsX30 ++ (vx_atS RX8 175 "java/lang/IndexOutOfBoundsException" ["java/lang/RuntimeException", "java/lang/Exception"]).filter goodWord)
def wsL_law0_r1 : List Cond := [Cond.classLink RL 8 RX8, Cond.instantiable RX8 5, Cond.initialized RX8, Cond.classLink RL 89 RX9, Cond.instantiable RX9 31, Cond.initialized RX9, Cond.arrayClass .long, Cond.constantLong RL 166 (4294967295), Cond.methodLink RL 88 yX8_init, Cond.instanceMethod yX8_init, Cond.code yX8_init cX8_init 1 none, Cond.methodLink RX8 1 objectInit, Cond.instanceMethod objectInit, Cond.code objectInit ⟨#[0xb1]⟩ 1 none, Cond.classLink RX8 7 RX5, Cond.instantiable RX5 3, Cond.initialized RX5, Cond.fieldLink RX8 10 "RangePropagato\x72" "program" "LRangePropagator$Program;", Cond.classLink RX8 16 RX6, Cond.instantiable RX6 4, Cond.initialized RX6, Cond.fieldLink RX8 19 "RangePropagato\x72" "settings" "LRangePropagator$Settings;", Cond.classLink RX8 23 RX0, Cond.instantiable RX0 3]
def wsL_law0_r2 : List Cond := [Cond.initialized RX0, Cond.fieldLink RX8 26 "RangePropagato\x72" "analysis" "LRangePropagator$Analysis;", Cond.classLink RX8 30 RX3, Cond.instantiable RX3 5, Cond.initialized RX3, Cond.fieldLink RX8 33 "RangePropagato\x72" "execution" "LRangePropagator$Execution;", Cond.fieldLink RX8 37 "RangePropagato\x72" "analysisStands" "Z", Cond.methodLink RX8 9 yX5_init, Cond.instanceMethod yX5_init, Cond.code yX5_init cX5_init 2 none, Cond.methodLink RX5 3 objectInit, Cond.classLink RX5 9 RX2, Cond.fieldLink RX5 11 "RangePropagator$Program" "blocks" "[LRangePropagator$Block;", Cond.classLink RX5 17 RX7, Cond.instantiable RX7 3, Cond.initialized RX7, Cond.fieldLink RX5 20 "RangePropagator$Program" "initial" "LRangePropagator$State;", Cond.fieldLink RX5 24 "RangePropagator$Program" "count" "I", Cond.instantiable RX2 10, Cond.initialized RX2, Cond.fieldLink RX5 29 "RangePropagator$State" "isNone" "Z", Cond.instanceMethod yX7_init, Cond.code yX7_init cX7_init 1 none, Cond.methodLink RX7 3 objectInit]
def wsL_law0_r3 : List Cond := [Cond.fieldLink RX7 9 "RangePropagator$State" "isNone" "Z", Cond.arrayClass .int, Cond.fieldLink RX7 15 "RangePropagator$State" "low" "[I", Cond.fieldLink RX7 19 "RangePropagator$State" "high" "[I", Cond.instanceMethod yX2_init, Cond.code yX2_init cX2_init 1 none, Cond.methodLink RX2 3 objectInit, Cond.fieldLink RX2 9 "RangePropagator$Block" "statementCount" "I", Cond.fieldLink RX2 15 "RangePropagator$Block" "kinds" "[I", Cond.fieldLink RX2 19 "RangePropagator$Block" "targets" "[I", Cond.fieldLink RX2 22 "RangePropagator$Block" "firsts" "[I", Cond.fieldLink RX2 25 "RangePropagator$Block" "seconds" "[I", Cond.fieldLink RX2 28 "RangePropagator$Block" "edgeCount" "I", Cond.fieldLink RX2 31 "RangePropagator$Block" "followers" "[I", Cond.fieldLink RX2 34 "RangePropagator$Block" "branchX" "I", Cond.fieldLink RX2 37 "RangePropagator$Block" "branchY" "I", Cond.fieldLink RX2 40 "RangePropagator$Block" "relation" "I", Cond.instanceMethod yX6_init, Cond.code yX6_init cX6_init 1 none, Cond.methodLink RX6 3 objectInit, Cond.fieldLink RX6 9 "RangePropagator$Settings" "delay" "I", Cond.fieldLink RX6 15 "RangePropagator$Settings" "narrowings" "I", Cond.fieldLink RX6 18 "RangePropagator$Settings" "thresholdCount" "I", Cond.fieldLink RX6 21 "RangePropagator$Settings" "thresholds" "[I"]
def wsL_law0_r4 : List Cond := [Cond.methodLink RX8 25 yX0_init, Cond.instanceMethod yX0_init, Cond.code yX0_init cX0_init 2 none, Cond.methodLink RX0 3 objectInit, Cond.classLink RX0 9 RX4, Cond.fieldLink RX0 11 "RangePropagator$Analysis" "flows" "[LRangePropagator$Flow;", Cond.classLink RX0 17 RX7, Cond.fieldLink RX0 20 "RangePropagator$Analysis" "incoming" "LRangePropagator$State;", Cond.fieldLink RX0 24 "RangePropagator$Analysis" "joined" "LRangePropagator$State;", Cond.instantiable RX4 4, Cond.initialized RX4, Cond.methodLink RX0 27 yX4_init, Cond.instanceMethod yX4_init, Cond.code yX4_init cX4_init 2 none, Cond.methodLink RX4 3 objectInit, Cond.classLink RX4 9 RX7, Cond.fieldLink RX4 12 "RangePropagator$Flow" "entryState" "LRangePropagator$State;", Cond.fieldLink RX4 18 "RangePropagator$Flow" "exitState" "LRangePropagator$State;", Cond.fieldLink RX4 21 "RangePropagator$Flow" "edgeStates" "[LRangePropagator$State;", Cond.fieldLink RX4 25 "RangePropagator$Flow" "visitCount" "I", Cond.instanceMethod yX3_init, Cond.code yX3_init cX3_init 1 none, Cond.methodLink RX3 3 objectInit, Cond.fieldLink RX3 9 "RangePropagator$Execution" "values" "[I"]
def wsL_law0_r5 : List Cond := [Cond.fieldLink RX3 15 "RangePropagator$Execution" "stepBlocks" "[I", Cond.fieldLink RX3 18 "RangePropagator$Execution" "stepValues" "[I", Cond.fieldLink RX3 21 "RangePropagator$Execution" "stepCount" "I", Cond.fieldLink RX3 25 "RangePropagator$Execution" "\x72" "J", Cond.methodLink RL 91 yX9_init, Cond.instanceMethod yX9_init, Cond.code yX9_init cX9_init 1 none, Cond.methodLink RX9 1 objectInit, Cond.fieldLink RX9 7 "RangePropagatorModel" "blocks" "I", Cond.fieldLink RX9 13 "RangePropagatorModel" "sizes" "[I", Cond.fieldLink RX9 17 "RangePropagatorModel" "statements" "[I", Cond.fieldLink RX9 20 "RangePropagatorModel" "edges" "[I", Cond.fieldLink RX9 23 "RangePropagatorModel" "ups" "[I", Cond.fieldLink RX9 26 "RangePropagatorModel" "downs" "[I", Cond.fieldLink RX9 29 "RangePropagatorModel" "xs" "[I", Cond.fieldLink RX9 32 "RangePropagatorModel" "ys" "[I", Cond.fieldLink RX9 35 "RangePropagatorModel" "relations" "[I", Cond.fieldLink RX9 38 "RangePropagatorModel" "firstLows" "[I", Cond.fieldLink RX9 41 "RangePropagatorModel" "firstHighs" "[I", Cond.fieldLink RX9 44 "RangePropagatorModel" "delay" "I", Cond.fieldLink RX9 47 "RangePropagatorModel" "narrowings" "I", Cond.fieldLink RX9 50 "RangePropagatorModel" "threshold" "[I", Cond.arrayClass .boolean, Cond.fieldLink RX9 53 "RangePropagatorModel" "isThere" "[Z"]
def wsL_law0_r6 : List Cond := [Cond.fieldLink RX9 57 "RangePropagatorModel" "lows" "[I", Cond.fieldLink RX9 60 "RangePropagatorModel" "highs" "[I", Cond.fieldLink RX9 63 "RangePropagatorModel" "visits" "[I", Cond.fieldLink RX9 66 "RangePropagatorModel" "low" "[I", Cond.fieldLink RX9 69 "RangePropagatorModel" "high" "[I", Cond.fieldLink RX9 72 "RangePropagatorModel" "joinLow" "[I", Cond.fieldLink RX9 75 "RangePropagatorModel" "joinHigh" "[I", Cond.fieldLink RX9 78 "RangePropagatorModel" "entered" "[I", Cond.fieldLink RX9 81 "RangePropagatorModel" "enteredWith" "[I", Cond.fieldLink RX9 84 "RangePropagatorModel" "results" "[I", Cond.methodLink RL 92 yL_addBlock, Cond.static yL_addBlock, Cond.initialized RL, Cond.codeWith yL_addBlock cL_addBlock 3 (some .int) [(0, 8, 11, 13)], Cond.classLink RL 13 "java/lang/IllegalStateException", Cond.methodLink RL 7 yX8_addBlock, Cond.instanceMethod yX8_addBlock, Cond.selects RX8 yX8_addBlock yX8_addBlock, Cond.code yX8_addBlock cX8_addBlock 1 (some .int), Cond.classLink RX8 45 "java/lang/IllegalStateException", Cond.initialized "java/lang/IllegalStateException", Cond.fieldLink RX8 41 "RangePropagator$Program" "count" "I", Cond.methodLink RL 97 yX9_addBlock, Cond.instanceMethod yX9_addBlock]
def wsL_law0_r7 : List Cond := [Cond.selects RX9 yX9_addBlock yX9_addBlock, Cond.code yX9_addBlock cX9_addBlock 1 (some .int), Cond.fieldLink RX9 87 "RangePropagatorModel" "thrown" "I", Cond.fieldLink RX9 96 "RangePropagatorModel" "isMade" "Z", Cond.methodLink RX9 92 yX9_fail, Cond.instanceMethod yX9_fail, Cond.selects RX9 yX9_fail yX9_fail, Cond.code yX9_fail cX9_fail 2 (some .int), Cond.methodLink RL 98 yX9_thrown, Cond.instanceMethod yX9_thrown, Cond.selects RX9 yX9_thrown yX9_thrown, Cond.code yX9_thrown cX9_thrown 1 (some .int), Cond.methodLink RL 101 yL_setInitial, Cond.static yL_setInitial, Cond.codeWith yL_setInitial cL_setInitial 6 (some .int) [(0, 19, 22, 19), (0, 19, 26, 21)], Cond.classLink RL 19 "java/lang/IndexOutOfBoundsException", Cond.classLink RL 21 "java/lang/IllegalArgumentException", Cond.methodLink RL 15 yX8_setInitial, Cond.instanceMethod yX8_setInitial, Cond.selects RX8 yX8_setInitial yX8_setInitial, Cond.code yX8_setInitial cX8_setInitial 6 (some .boolean), Cond.fieldLink RX8 60 "RangePropagator$Program" "initial" "LRangePropagator$State;", Cond.fieldLink RX8 64 "RangePropagator$State" "low" "[I", Cond.fieldLink RX8 70 "RangePropagator$State" "high" "[I"]
def wsL_law0_r8 : List Cond := [Cond.methodLink RX8 52 yX8_requireVariable, Cond.static yX8_requireVariable, Cond.code yX8_requireVariable cX8_requireVariable 1 none, Cond.classLink RX8 171 "java/lang/IndexOutOfBoundsException", Cond.initialized "java/lang/IndexOutOfBoundsException", Cond.methodLink RX8 56 yX8_requireRange, Cond.static yX8_requireRange, Cond.code yX8_requireRange cX8_requireRange 2 none, Cond.classLink RX8 93 "java/lang/IllegalArgumentException", Cond.initialized "java/lang/IllegalArgumentException", Cond.constant RX8 126 (-1000000000), Cond.constant RX8 127 (1000000000), Cond.methodLink RX8 73 yX7_setRange, Cond.instanceMethod yX7_setRange, Cond.selects RX7 yX7_setRange yX7_setRange, Cond.code yX7_setRange cX7_setRange 4 none, Cond.methodLink RL 104 yX9_setInitial, Cond.instanceMethod yX9_setInitial, Cond.selects RX9 yX9_setInitial yX9_setInitial, Cond.code yX9_setInitial cX9_setInitial 5 (some .boolean), Cond.methodLink RX9 100 yX9_isVariable, Cond.static yX9_isVariable, Cond.code yX9_isVariable cX9_isVariable 1 (some .boolean), Cond.methodLink RX9 104 yX9_isRange]
def wsL_law0_r9 : List Cond := [Cond.static yX9_isRange, Cond.code yX9_isRange cX9_isRange 2 (some .boolean), Cond.constant RX9 90 (-1000000000), Cond.constant RX9 91 (1000000000), Cond.methodLink RL 105 yL_input, Cond.static yL_input, Cond.codeWith yL_input cL_input 7 (some .int) [(0, 14, 17, 19), (0, 14, 21, 21), (0, 14, 25, 13)], Cond.methodLink RL 23 yX8_input, Cond.instanceMethod yX8_input, Cond.selects RX8 yX8_input yX8_input, Cond.code yX8_input cX8_input 5 (some .int), Cond.fieldLink RX8 83 "RangePropagator$Program" "blocks" "[LRangePropagator$Block;", Cond.methodLink RX8 77 yX8_requireBlock, Cond.instanceMethod yX8_requireBlock, Cond.selects RX8 yX8_requireBlock yX8_requireBlock, Cond.code yX8_requireBlock cX8_requireBlock 2 none, Cond.methodLink RX8 80 yX8_requireRoom, Cond.instanceMethod yX8_requireRoom, Cond.selects RX8 yX8_requireRoom yX8_requireRoom, Cond.code yX8_requireRoom cX8_requireRoom 2 none, Cond.fieldLink RX8 110 "RangePropagator$Block" "statementCount" "I", Cond.methodLink RX8 87 yX2_append, Cond.instanceMethod yX2_append, Cond.selects RX2 yX2_append yX2_append]
def wsL_law0_r10 : List Cond := [Cond.code yX2_append cX2_append 6 (some .int), Cond.methodLink RL 108 yX9_input, Cond.instanceMethod yX9_input, Cond.selects RX9 yX9_input yX9_input, Cond.code yX9_input cX9_input 5 (some .int), Cond.methodLink RX9 108 yX9_isBlock, Cond.instanceMethod yX9_isBlock, Cond.selects RX9 yX9_isBlock yX9_isBlock, Cond.code yX9_isBlock cX9_isBlock 2 (some .boolean), Cond.methodLink RX9 111 yX9_append, Cond.instanceMethod yX9_append, Cond.selects RX9 yX9_append yX9_append, Cond.code yX9_append cX9_append 7 (some .int), Cond.methodLink RL 109 yL_compute, Cond.static yL_compute, Cond.codeWith yL_compute cL_compute 8 (some .int) [(0, 16, 19, 19), (0, 16, 23, 21), (0, 16, 27, 13)], Cond.methodLink RL 27 yX8_compute, Cond.instanceMethod yX8_compute, Cond.selects RX8 yX8_compute yX8_compute, Cond.code yX8_compute cX8_compute 6 (some .int), Cond.methodLink RL 112 yX9_compute, Cond.instanceMethod yX9_compute, Cond.selects RX9 yX9_compute yX9_compute, Cond.code yX9_compute cX9_compute 6 (some .int)]
def wsL_law0_r11 : List Cond := [Cond.methodLink RL 113 yL_jump, Cond.static yL_jump, Cond.codeWith yL_jump cL_jump 5 (some .int) [(0, 10, 13, 19)], Cond.methodLink RL 31 yX8_jump, Cond.instanceMethod yX8_jump, Cond.selects RX8 yX8_jump yX8_jump, Cond.code yX8_jump cX8_jump 5 (some .int), Cond.fieldLink RX8 98 "RangePropagator$Block" "edgeCount" "I", Cond.methodLink RX8 101 yX2_endWithJump, Cond.instanceMethod yX2_endWithJump, Cond.selects RX2 yX2_endWithJump yX2_endWithJump, Cond.code yX2_endWithJump cX2_endWithJump 2 none, Cond.methodLink RL 116 yX9_jump, Cond.instanceMethod yX9_jump, Cond.selects RX9 yX9_jump yX9_jump, Cond.code yX9_jump cX9_jump 3 (some .int), Cond.methodLink RX9 115 yX9_end, Cond.instanceMethod yX9_end, Cond.selects RX9 yX9_end yX9_end, Cond.code yX9_end cX9_end 6 (some .int), Cond.methodLink RL 117 yL_branch, Cond.static yL_branch, Cond.codeWith yL_branch cL_branch 9 (some .int) [(0, 18, 21, 19), (0, 18, 25, 21)], Cond.methodLink RL 35 yX8_branch]
def wsL_law0_r12 : List Cond := [Cond.instanceMethod yX8_branch, Cond.selects RX8 yX8_branch yX8_branch, Cond.code yX8_branch cX8_branch 9 (some .int), Cond.methodLink RX8 106 yX2_endWithBranch, Cond.instanceMethod yX2_endWithBranch, Cond.selects RX2 yX2_endWithBranch yX2_endWithBranch, Cond.code yX2_endWithBranch cX2_endWithBranch 6 none, Cond.methodLink RL 120 yX9_branch, Cond.instanceMethod yX9_branch, Cond.selects RX9 yX9_branch yX9_branch, Cond.code yX9_branch cX9_branch 7 (some .int), Cond.methodLink RL 121 yL_clear, Cond.static yL_clear, Cond.codeWith yL_clear cL_clear 4 (some .int) [(0, 9, 12, 19)], Cond.methodLink RL 39 yX8_clear, Cond.instanceMethod yX8_clear, Cond.selects RX8 yX8_clear yX8_clear, Cond.code yX8_clear cX8_clear 4 (some .int), Cond.methodLink RX8 113 yX2_makeEmpty, Cond.instanceMethod yX2_makeEmpty, Cond.selects RX2 yX2_makeEmpty yX2_makeEmpty, Cond.code yX2_makeEmpty cX2_makeEmpty 1 none, Cond.methodLink RL 124 yX9_clear, Cond.instanceMethod yX9_clear]
def wsL_law0_r13 : List Cond := [Cond.selects RX9 yX9_clear yX9_clear, Cond.code yX9_clear cX9_clear 3 (some .int), Cond.methodLink RL 125 yX8_blockCount, Cond.instanceMethod yX8_blockCount, Cond.selects RX8 yX8_blockCount yX8_blockCount, Cond.code yX8_blockCount cX8_blockCount 1 (some .int), Cond.methodLink RL 128 yX9_blockCount, Cond.instanceMethod yX9_blockCount, Cond.selects RX9 yX9_blockCount yX9_blockCount, Cond.code yX9_blockCount cX9_blockCount 1 (some .int), Cond.methodLink RL 129 yL_setEffort, Cond.static yL_setEffort, Cond.codeWith yL_setEffort cL_setEffort 5 (some .int) [(0, 17, 20, 21)], Cond.methodLink RL 43 yX8_setEffort, Cond.instanceMethod yX8_setEffort, Cond.selects RX8 yX8_setEffort yX8_setEffort, Cond.code yX8_setEffort cX8_setEffort 4 (some .boolean), Cond.fieldLink RX8 120 "RangePropagator$Settings" "delay" "I", Cond.fieldLink RX8 123 "RangePropagator$Settings" "narrowings" "I", Cond.methodLink RL 131 yX9_setEffort, Cond.instanceMethod yX9_setEffort, Cond.selects RX9 yX9_setEffort yX9_setEffort, Cond.code yX9_setEffort cX9_setEffort 4 (some .boolean), Cond.methodLink RL 132 yL_addThreshold]
def wsL_law0_r14 : List Cond := [Cond.static yL_addThreshold, Cond.codeWith yL_addThreshold cL_addThreshold 4 (some .int) [(0, 9, 12, 21), (0, 9, 15, 13)], Cond.methodLink RL 47 yX8_addThreshold, Cond.instanceMethod yX8_addThreshold, Cond.selects RX8 yX8_addThreshold yX8_addThreshold, Cond.code yX8_addThreshold cX8_addThreshold 2 (some .int), Cond.fieldLink RX8 130 "RangePropagator$Settings" "thresholdCount" "I", Cond.methodLink RX8 135 yX6_keepThreshold, Cond.instanceMethod yX6_keepThreshold, Cond.selects RX6 yX6_keepThreshold yX6_keepThreshold, Cond.code yX6_keepThreshold cX6_keepThreshold 3 none, Cond.methodLink RL 134 yX9_addThreshold, Cond.instanceMethod yX9_addThreshold, Cond.selects RX9 yX9_addThreshold yX9_addThreshold, Cond.code yX9_addThreshold cX9_addThreshold 4 (some .int), Cond.fieldLink RX9 119 "RangePropagatorModel" "thresholds" "I", Cond.methodLink RL 135 yX8_analyze, Cond.instanceMethod yX8_analyze, Cond.selects RX8 yX8_analyze yX8_analyze, Cond.code yX8_analyze cX8_analyze 2 (some .int), Cond.methodLink RX8 138 yX0_forget, Cond.instanceMethod yX0_forget, Cond.selects RX0 yX0_forget yX0_forget, Cond.code yX0_forget cX0_forget 2 none]
def wsL_law0_r15 : List Cond := [Cond.methodLink RX0 28 yX4_makeNone, Cond.instanceMethod yX4_makeNone, Cond.selects RX4 yX4_makeNone yX4_makeNone, Cond.code yX4_makeNone cX4_makeNone 2 none, Cond.fieldLink RX4 29 "RangePropagator$State" "isNone" "Z", Cond.methodLink RX8 141 yX0_makeRounds, Cond.instanceMethod yX0_makeRounds, Cond.selects RX0 yX0_makeRounds yX0_makeRounds, Cond.code yX0_makeRounds cX0_makeRounds 6 (some .int), Cond.constant RX0 31 (1000000), Cond.fieldLink RX0 32 "RangePropagator$Program" "count" "I", Cond.methodLink RX0 38 yX0_lookAt, Cond.instanceMethod yX0_lookAt, Cond.selects RX0 yX0_lookAt yX0_lookAt, Cond.code yX0_lookAt cX0_lookAt 5 (some .boolean), Cond.fieldLink RX0 49 "RangePropagator$State" "isNone" "Z", Cond.fieldLink RX0 53 "RangePropagator$Flow" "entryState" "LRangePropagator$State;", Cond.fieldLink RX0 63 "RangePropagator$Flow" "visitCount" "I", Cond.fieldLink RX0 66 "RangePropagator$Settings" "delay" "I", Cond.fieldLink RX0 79 "RangePropagator$Program" "blocks" "[LRangePropagator$Block;", Cond.methodLink RX0 46 yX0_gatherIncoming, Cond.instanceMethod yX0_gatherIncoming, Cond.selects RX0 yX0_gatherIncoming yX0_gatherIncoming, Cond.code yX0_gatherIncoming cX0_gatherIncoming 6 none]
def wsL_law0_r16 : List Cond := [Cond.fieldLink RX0 90 "RangePropagator$Program" "initial" "LRangePropagator$State;", Cond.fieldLink RX0 93 "RangePropagator$Block" "edgeCount" "I", Cond.fieldLink RX0 98 "RangePropagator$Block" "followers" "[I", Cond.fieldLink RX0 102 "RangePropagator$Flow" "edgeStates" "[LRangePropagator$State;", Cond.methodLink RX0 60 yX7_join, Cond.instanceMethod yX7_join, Cond.selects RX7 yX7_join yX7_join, Cond.code yX7_join cX7_join 3 none, Cond.methodLink RX7 32 Lib.Math.min.name, Cond.static Lib.Math.min.name, Cond.initialized "java/lang/Math", Cond.code Lib.Math.min.name Lib.Math.min.code 2 (some .int), Cond.methodLink RX7 38 Lib.Math.max.name, Cond.static Lib.Math.max.name, Cond.code Lib.Math.max.name Lib.Math.max.code 2 (some .int), Cond.methodLink RX7 28 yX7_become, Cond.instanceMethod yX7_become, Cond.selects RX7 yX7_become yX7_become, Cond.code yX7_become cX7_become 2 none, Cond.methodLink RX7 22 arraycopyName, Cond.native arraycopyName, Cond.static arraycopyName, Cond.initialized "java/lang/System", Cond.methodLink RX0 56 yX7_become]
def wsL_law0_r17 : List Cond := [Cond.methodLink RX0 71 yX6_widen, Cond.instanceMethod yX6_widen, Cond.selects RX6 yX6_widen yX6_widen, Cond.code yX6_widen cX6_widen 4 none, Cond.fieldLink RX6 25 "RangePropagator$State" "low" "[I", Cond.fieldLink RX6 34 "RangePropagator$State" "high" "[I", Cond.methodLink RX6 30 yX6_greatestUpTo, Cond.instanceMethod yX6_greatestUpTo, Cond.selects RX6 yX6_greatestUpTo yX6_greatestUpTo, Cond.code yX6_greatestUpTo cX6_greatestUpTo 4 (some .int), Cond.constant RX6 40 (-1000000000), Cond.methodLink RX6 37 yX6_smallestFrom, Cond.instanceMethod yX6_smallestFrom, Cond.selects RX6 yX6_smallestFrom yX6_smallestFrom, Cond.code yX6_smallestFrom cX6_smallestFrom 4 (some .int), Cond.constant RX6 41 (1000000000), Cond.methodLink RX0 75 yX7_differsFrom, Cond.instanceMethod yX7_differsFrom, Cond.selects RX7 yX7_differsFrom yX7_differsFrom, Cond.code yX7_differsFrom cX7_differsFrom 3 (some .boolean), Cond.methodLink RX0 83 yX4_makeAnew, Cond.instanceMethod yX4_makeAnew, Cond.selects RX4 yX4_makeAnew yX4_makeAnew, Cond.code yX4_makeAnew cX4_makeAnew 3 none]
def wsL_law0_r18 : List Cond := [Cond.fieldLink RX4 42 "RangePropagator$Block" "edgeCount" "I", Cond.methodLink RX4 33 yX7_become, Cond.methodLink RX4 37 yX2_applyTo, Cond.instanceMethod yX2_applyTo, Cond.selects RX2 yX2_applyTo yX2_applyTo, Cond.code yX2_applyTo cX2_applyTo 3 none, Cond.fieldLink RX2 43 "RangePropagator$State" "isNone" "Z", Cond.methodLink RX2 49 yX7_setRange, Cond.methodLink RX2 53 yX7_assign, Cond.instanceMethod yX7_assign, Cond.selects RX7 yX7_assign yX7_assign, Cond.code yX7_assign cX7_assign 9 none, Cond.methodLink RX7 45 yX1_outcome, Cond.static yX1_outcome, Cond.initialized RX1, Cond.code yX1_outcome cX1_outcome 5 (some .int), Cond.methodLink RX1 9 Lib.Math.min.name, Cond.methodLink RX1 15 Lib.Math.max.name, Cond.constantLong RX1 18 (-1000000000), Cond.constantLong RX1 20 (1000000000), Cond.methodLink RX1 22 Lib.MathLoose.min_long.x, Cond.static Lib.MathLoose.min_long.x, Cond.code Lib.MathLoose.min_long.x Lib.MathLoose.min_long.code 4 (some .long), Cond.methodLink RX1 25 Lib.MathLoose.max_long.x]
def wsL_law0_r19 : List Cond := [Cond.static Lib.MathLoose.max_long.x, Cond.code Lib.MathLoose.max_long.x Lib.MathLoose.max_long.code 4 (some .long), Cond.methodLink RX4 45 yX2_refineForEdge, Cond.instanceMethod yX2_refineForEdge, Cond.selects RX2 yX2_refineForEdge yX2_refineForEdge, Cond.code yX2_refineForEdge cX2_refineForEdge 3 none, Cond.methodLink RX2 57 yX7_refine, Cond.instanceMethod yX7_refine, Cond.selects RX7 yX7_refine yX7_refine, Cond.code yX7_refine cX7_refine 4 none, Cond.methodLink RX7 51 yX1_isTrue, Cond.static yX1_isTrue, Cond.code yX1_isTrue cX1_isTrue 3 (some .boolean), Cond.methodLink RX7 55 yX7_keepOrdered, Cond.instanceMethod yX7_keepOrdered, Cond.selects RX7 yX7_keepOrdered yX7_keepOrdered, Cond.code yX7_keepOrdered cX7_keepOrdered 4 none, Cond.methodLink RX7 59 yX7_keepEqual, Cond.instanceMethod yX7_keepEqual, Cond.selects RX7 yX7_keepEqual yX7_keepEqual, Cond.code yX7_keepEqual cX7_keepEqual 5 none, Cond.methodLink RX7 66 yX7_setRange, Cond.methodLink RX7 63 yX7_keepUnequal, Cond.instanceMethod yX7_keepUnequal]
def wsL_law0_r20 : List Cond := [Cond.selects RX7 yX7_keepUnequal yX7_keepUnequal, Cond.code yX7_keepUnequal cX7_keepUnequal 3 none, Cond.methodLink RX7 41 yX7_isConstant, Cond.instanceMethod yX7_isConstant, Cond.selects RX7 yX7_isConstant yX7_isConstant, Cond.code yX7_isConstant cX7_isConstant 2 (some .boolean), Cond.methodLink RX7 69 yX7_cutOff, Cond.instanceMethod yX7_cutOff, Cond.selects RX7 yX7_cutOff yX7_cutOff, Cond.code yX7_cutOff cX7_cutOff 3 none, Cond.methodLink RX2 60 yX1_oppositeOfSwapped, Cond.static yX1_oppositeOfSwapped, Cond.code yX1_oppositeOfSwapped cX1_oppositeOfSwapped 1 (some .int), Cond.methodLink RX8 145 yX0_makeNarrowings, Cond.instanceMethod yX0_makeNarrowings, Cond.selects RX0 yX0_makeNarrowings yX0_makeNarrowings, Cond.code yX0_makeNarrowings cX0_makeNarrowings 5 none, Cond.methodLink RX0 42 yX0_narrow, Cond.instanceMethod yX0_narrow, Cond.selects RX0 yX0_narrow yX0_narrow, Cond.code yX0_narrow cX0_narrow 4 none, Cond.methodLink RX0 87 yX7_narrowTo, Cond.instanceMethod yX7_narrowTo, Cond.selects RX7 yX7_narrowTo yX7_narrowTo]
def wsL_law0_r21 : List Cond := [Cond.code yX7_narrowTo cX7_narrowTo 3 none, Cond.methodLink RL 138 yX9_analyze, Cond.instanceMethod yX9_analyze, Cond.selects RX9 yX9_analyze yX9_analyze, Cond.code yX9_analyze cX9_analyze 5 (some .int), Cond.methodLink RX9 183 yX9_look, Cond.instanceMethod yX9_look, Cond.selects RX9 yX9_look yX9_look, Cond.code yX9_look cX9_look 8 (some .boolean), Cond.fieldLink RX9 165 "RangePropagatorModel" "hasJoin" "Z", Cond.methodLink RX9 147 Lib.Math.min.name, Cond.methodLink RX9 150 Lib.Math.max.name, Cond.methodLink RX9 174 yX9_gather, Cond.instanceMethod yX9_gather, Cond.selects RX9 yX9_gather yX9_gather, Cond.code yX9_gather cX9_gather 4 none, Cond.methodLink RX9 168 yX9_reach, Cond.instanceMethod yX9_reach, Cond.selects RX9 yX9_reach yX9_reach, Cond.code yX9_reach cX9_reach 6 (some .boolean), Cond.methodLink RX9 156 yX9_leave, Cond.instanceMethod yX9_leave, Cond.selects RX9 yX9_leave yX9_leave, Cond.code yX9_leave cX9_leave 3 none]
def wsL_law0_r22 : List Cond := [Cond.methodLink RX9 152 yX9_apply, Cond.instanceMethod yX9_apply, Cond.selects RX9 yX9_apply yX9_apply, Cond.code yX9_apply cX9_apply 5 none, Cond.methodLink RX9 139 yX9_set, Cond.instanceMethod yX9_set, Cond.selects RX9 yX9_set yX9_set, Cond.code yX9_set cX9_set 6 none, Cond.methodLink RX9 135 yX9_limited, Cond.static yX9_limited, Cond.code yX9_limited cX9_limited 2 (some .int), Cond.constantLong RX9 122 (-1000000000), Cond.constantLong RX9 124 (1000000000), Cond.methodLink RX9 126 Lib.MathLoose.min_long.x, Cond.methodLink RX9 132 Lib.MathLoose.max_long.x, Cond.methodLink RX9 143 yX9_product, Cond.instanceMethod yX9_product, Cond.selects RX9 yX9_product yX9_product, Cond.code yX9_product cX9_product 12 none, Cond.methodLink RX9 159 yX9_opposite, Cond.static yX9_opposite, Cond.code yX9_opposite cX9_opposite 1 (some .int), Cond.methodLink RX9 162 yX9_refine, Cond.instanceMethod yX9_refine]
def wsL_law0_r23 : List Cond := [Cond.selects RX9 yX9_refine yX9_refine, Cond.code yX9_refine cX9_refine 8 none, Cond.methodLink RX9 171 yX9_join, Cond.instanceMethod yX9_join, Cond.selects RX9 yX9_join yX9_join, Cond.code yX9_join cX9_join 2 none, Cond.methodLink RX9 177 yX9_below, Cond.instanceMethod yX9_below, Cond.selects RX9 yX9_below yX9_below, Cond.code yX9_below cX9_below 4 (some .int), Cond.methodLink RX9 180 yX9_above, Cond.instanceMethod yX9_above, Cond.selects RX9 yX9_above yX9_above, Cond.code yX9_above cX9_above 4 (some .int), Cond.methodLink RX9 186 yX9_narrow, Cond.instanceMethod yX9_narrow, Cond.selects RX9 yX9_narrow yX9_narrow, Cond.code yX9_narrow cX9_narrow 4 none, Cond.methodLink RL 139 yX8_isAnalyzed, Cond.instanceMethod yX8_isAnalyzed, Cond.selects RX8 yX8_isAnalyzed yX8_isAnalyzed, Cond.code yX8_isAnalyzed cX8_isAnalyzed 1 (some .boolean), Cond.methodLink RL 143 yX9_isAnalyzed, Cond.instanceMethod yX9_isAnalyzed]
def wsL_law0_r24 : List Cond := [Cond.selects RX9 yX9_isAnalyzed yX9_isAnalyzed, Cond.code yX9_isAnalyzed cX9_isAnalyzed 1 (some .boolean), Cond.methodLink RL 144 yL_isReachable, Cond.static yL_isReachable, Cond.codeWith yL_isReachable cL_isReachable 4 (some .int) [(0, 16, 19, 13), (0, 16, 22, 19)], Cond.methodLink RL 50 yX8_isReachable, Cond.instanceMethod yX8_isReachable, Cond.selects RX8 yX8_isReachable yX8_isReachable, Cond.code yX8_isReachable cX8_isReachable 2 (some .boolean), Cond.fieldLink RX8 152 "RangePropagator$Analysis" "flows" "[LRangePropagator$Flow;", Cond.fieldLink RX8 156 "RangePropagator$Flow" "entryState" "LRangePropagator$State;", Cond.fieldLink RX8 161 "RangePropagator$State" "isNone" "Z", Cond.methodLink RX8 149 yX8_requireAnalysis, Cond.instanceMethod yX8_requireAnalysis, Cond.selects RX8 yX8_requireAnalysis yX8_requireAnalysis, Cond.code yX8_requireAnalysis cX8_requireAnalysis 1 none, Cond.methodLink RL 146 yX9_isReachable, Cond.instanceMethod yX9_isReachable, Cond.selects RX9 yX9_isReachable yX9_isReachable, Cond.code yX9_isReachable cX9_isReachable 2 (some .boolean), Cond.methodLink RL 147 yL_entry, Cond.static yL_entry, Cond.codeWith yL_entry cL_entry 6 (some .int) [(0, 12, 15, 13), (0, 12, 19, 19), (0, 12, 23, 58)], Cond.classLink RL 58 "java/util/NoSuchElementException"]
def wsL_law0_r25 : List Cond := [Cond.methodLink RL 54 yX8_entry, Cond.instanceMethod yX8_entry, Cond.selects RX8 yX8_entry yX8_entry, Cond.code yX8_entry cX8_entry 4 (some .int), Cond.methodLink RX8 164 yX8_endOfRange, Cond.static yX8_endOfRange, Cond.code yX8_endOfRange cX8_endOfRange 3 (some .int), Cond.classLink RX8 227 "java/util/NoSuchElementException", Cond.initialized "java/util/NoSuchElementException", Cond.methodLink RL 150 yX9_entry, Cond.instanceMethod yX9_entry, Cond.selects RX9 yX9_entry yX9_entry, Cond.code yX9_entry cX9_entry 4 (some .int), Cond.methodLink RX9 189 yX9_asks, Cond.instanceMethod yX9_asks, Cond.selects RX9 yX9_asks yX9_asks, Cond.code yX9_asks cX9_asks 3 (some .boolean), Cond.methodLink RL 151 yL_exit, Cond.static yL_exit, Cond.codeWith yL_exit cL_exit 6 (some .int) [(0, 12, 15, 13), (0, 12, 19, 19), (0, 12, 23, 58)], Cond.methodLink RL 60 yX8_exit, Cond.instanceMethod yX8_exit, Cond.selects RX8 yX8_exit yX8_exit, Cond.code yX8_exit cX8_exit 4 (some .int)]
def wsL_law0_r26 : List Cond := [Cond.fieldLink RX8 168 "RangePropagator$Flow" "exitState" "LRangePropagator$State;", Cond.methodLink RL 153 yX9_exit, Cond.instanceMethod yX9_exit, Cond.selects RX9 yX9_exit yX9_exit, Cond.code yX9_exit cX9_exit 4 (some .int), Cond.methodLink RL 154 yL_isDead, Cond.static yL_isDead, Cond.codeWith yL_isDead cL_isDead 5 (some .int) [(0, 17, 20, 13), (0, 17, 24, 19)], Cond.methodLink RL 63 yX8_isDead, Cond.instanceMethod yX8_isDead, Cond.selects RX8 yX8_isDead yX8_isDead, Cond.code yX8_isDead cX8_isDead 3 (some .boolean), Cond.fieldLink RX8 176 "RangePropagator$Flow" "edgeStates" "[LRangePropagator$State;", Cond.methodLink RL 156 yX9_isDead, Cond.instanceMethod yX9_isDead, Cond.selects RX9 yX9_isDead yX9_isDead, Cond.code yX9_isDead cX9_isDead 3 (some .boolean), Cond.methodLink RL 157 yL_deadEdges, Cond.static yL_deadEdges, Cond.codeWith yL_deadEdges cL_deadEdges 3 (some .int) [(0, 8, 11, 13)], Cond.methodLink RL 66 yX8_deadEdges, Cond.instanceMethod yX8_deadEdges, Cond.selects RX8 yX8_deadEdges yX8_deadEdges, Cond.code yX8_deadEdges cX8_deadEdges 3 (some .int)]
def wsL_law0_r27 : List Cond := [Cond.methodLink RX8 180 yX4_countDeadEdges, Cond.instanceMethod yX4_countDeadEdges, Cond.selects RX4 yX4_countDeadEdges yX4_countDeadEdges, Cond.code yX4_countDeadEdges cX4_countDeadEdges 4 (some .int), Cond.methodLink RL 159 yX9_deadEdges, Cond.instanceMethod yX9_deadEdges, Cond.selects RX9 yX9_deadEdges yX9_deadEdges, Cond.code yX9_deadEdges cX9_deadEdges 4 (some .int), Cond.methodLink RL 160 yL_constants, Cond.static yL_constants, Cond.codeWith yL_constants cL_constants 4 (some .int) [(0, 9, 12, 13), (0, 9, 15, 19)], Cond.methodLink RL 69 yX8_constants, Cond.instanceMethod yX8_constants, Cond.selects RX8 yX8_constants yX8_constants, Cond.code yX8_constants cX8_constants 2 (some .int), Cond.methodLink RX8 184 yX7_countConstants, Cond.instanceMethod yX7_countConstants, Cond.selects RX7 yX7_countConstants yX7_countConstants, Cond.code yX7_countConstants cX7_countConstants 3 (some .int), Cond.methodLink RL 162 yX9_constants, Cond.instanceMethod yX9_constants, Cond.selects RX9 yX9_constants yX9_constants, Cond.code yX9_constants cX9_constants 4 (some .int), Cond.methodLink RL 163 yL_visits]
def wsL_law0_r28 : List Cond := [Cond.static yL_visits, Cond.codeWith yL_visits cL_visits 4 (some .int) [(0, 9, 12, 13), (0, 9, 15, 19)], Cond.methodLink RL 72 yX8_visits, Cond.instanceMethod yX8_visits, Cond.selects RX8 yX8_visits yX8_visits, Cond.code yX8_visits cX8_visits 2 (some .int), Cond.fieldLink RX8 188 "RangePropagator$Flow" "visitCount" "I", Cond.methodLink RL 165 yX9_visits, Cond.instanceMethod yX9_visits, Cond.selects RX9 yX9_visits yX9_visits, Cond.code yX9_visits cX9_visits 2 (some .int), Cond.methodLink RL 168 yL_run, Cond.static yL_run, Cond.codeWith yL_run cL_run 6 (some .int) [(0, 11, 14, 21)], Cond.methodLink RL 75 yX8_run, Cond.instanceMethod yX8_run, Cond.selects RX8 yX8_run yX8_run, Cond.code yX8_run cX8_run 4 (some .int), Cond.fieldLink RX8 197 "RangePropagator$Execution" "stepCount" "I", Cond.methodLink RX8 193 yX3_execute, Cond.instanceMethod yX3_execute, Cond.selects RX3 yX3_execute yX3_execute, Cond.code yX3_execute cX3_execute 9 none, Cond.fieldLink RX3 29 "RangePropagator$Program" "initial" "LRangePropagator$State;"]
def wsL_law0_r29 : List Cond := [Cond.fieldLink RX3 35 "RangePropagator$State" "low" "[I", Cond.fieldLink RX3 40 "RangePropagator$State" "high" "[I", Cond.fieldLink RX3 47 "RangePropagator$Program" "blocks" "[LRangePropagator$Block;", Cond.fieldLink RX3 59 "RangePropagator$Block" "edgeCount" "I", Cond.methodLink RX3 43 yX3_choose, Cond.instanceMethod yX3_choose, Cond.selects RX3 yX3_choose yX3_choose, Cond.code yX3_choose cX3_choose 7 (some .int), Cond.constantLong RX3 120 (6364136223846793005), Cond.constantLong RX3 122 (1442695040888963407), Cond.methodLink RX3 114 yJ9_floorMod_f86c9, Cond.static yJ9_floorMod_f86c9, Cond.initialized RJ9, Cond.code yJ9_floorMod_f86c9 cJ9_floorMod_f86c9 6 (some .long), Cond.methodLink RX3 51 yX3_noteStep, Cond.instanceMethod yX3_noteStep, Cond.selects RX3 yX3_noteStep yX3_noteStep, Cond.code yX3_noteStep cX3_noteStep 3 none, Cond.methodLink RX3 68 arraycopyName, Cond.methodLink RX3 55 yX3_perform, Cond.instanceMethod yX3_perform, Cond.selects RX3 yX3_perform yX3_perform, Cond.code yX3_perform cX3_perform 3 none, Cond.fieldLink RX3 74 "RangePropagator$Block" "statementCount" "I"]
def wsL_law0_r30 : List Cond := [Cond.fieldLink RX3 77 "RangePropagator$Block" "targets" "[I", Cond.fieldLink RX3 80 "RangePropagator$Block" "kinds" "[I", Cond.fieldLink RX3 83 "RangePropagator$Block" "firsts" "[I", Cond.fieldLink RX3 86 "RangePropagator$Block" "seconds" "[I", Cond.methodLink RX3 89 yX3_outcomeOf, Cond.instanceMethod yX3_outcomeOf, Cond.selects RX3 yX3_outcomeOf yX3_outcomeOf, Cond.code yX3_outcomeOf cX3_outcomeOf 4 (some .int), Cond.methodLink RX3 93 yX1_outcome, Cond.methodLink RX3 64 yX3_follower, Cond.instanceMethod yX3_follower, Cond.selects RX3 yX3_follower yX3_follower, Cond.code yX3_follower cX3_follower 3 (some .int), Cond.fieldLink RX3 98 "RangePropagator$Block" "followers" "[I", Cond.fieldLink RX3 101 "RangePropagator$Block" "branchX" "I", Cond.fieldLink RX3 104 "RangePropagator$Block" "relation" "I", Cond.fieldLink RX3 107 "RangePropagator$Block" "branchY" "I", Cond.methodLink RX3 110 yX1_isTrue, Cond.methodLink RL 171 yX9_run, Cond.instanceMethod yX9_run, Cond.selects RX9 yX9_run yX9_run, Cond.code yX9_run cX9_run 7 (some .int), Cond.fieldLink RX9 192 "RangePropagatorModel" "\x72" "J", Cond.fieldLink RX9 203 "RangePropagatorModel" "steps" "I"]
def wsL_law0_r31 : List Cond := [Cond.methodLink RX9 200 yX9_draw, Cond.instanceMethod yX9_draw, Cond.selects RX9 yX9_draw yX9_draw, Cond.code yX9_draw cX9_draw 7 (some .int), Cond.constantLong RX9 196 (6364136223846793005), Cond.constantLong RX9 198 (1442695040888963407), Cond.methodLink RX9 206 yX9_valueOf, Cond.instanceMethod yX9_valueOf, Cond.selects RX9 yX9_valueOf yX9_valueOf, Cond.code yX9_valueOf cX9_valueOf 4 (some .int), Cond.methodLink RX9 209 yX9_isTrue, Cond.instanceMethod yX9_isTrue, Cond.selects RX9 yX9_isTrue yX9_isTrue, Cond.code yX9_isTrue cX9_isTrue 4 (some .boolean), Cond.methodLink RL 172 yL_enteredBlock, Cond.static yL_enteredBlock, Cond.codeWith yL_enteredBlock cL_enteredBlock 4 (some .int) [(0, 9, 12, 19)], Cond.methodLink RL 79 yX8_enteredBlock, Cond.instanceMethod yX8_enteredBlock, Cond.selects RX8 yX8_enteredBlock yX8_enteredBlock, Cond.code yX8_enteredBlock cX8_enteredBlock 2 (some .int), Cond.fieldLink RX8 203 "RangePropagator$Execution" "stepBlocks" "[I", Cond.methodLink RX8 200 yX8_requireStep, Cond.instanceMethod yX8_requireStep]
def wsL_law0_r32 : List Cond := [Cond.selects RX8 yX8_requireStep yX8_requireStep, Cond.code yX8_requireStep cX8_requireStep 2 none, Cond.methodLink RL 174 yX9_enteredBlock, Cond.instanceMethod yX9_enteredBlock, Cond.selects RX9 yX9_enteredBlock yX9_enteredBlock, Cond.code yX9_enteredBlock cX9_enteredBlock 2 (some .int), Cond.methodLink RL 175 yL_enteredWith, Cond.static yL_enteredWith, Cond.codeWith yL_enteredWith cL_enteredWith 5 (some .int) [(0, 10, 13, 19)], Cond.methodLink RL 82 yX8_enteredWith, Cond.instanceMethod yX8_enteredWith, Cond.selects RX8 yX8_enteredWith yX8_enteredWith, Cond.code yX8_enteredWith cX8_enteredWith 3 (some .int), Cond.fieldLink RX8 206 "RangePropagator$Execution" "stepValues" "[I", Cond.methodLink RL 177 yX9_enteredWith, Cond.instanceMethod yX9_enteredWith, Cond.selects RX9 yX9_enteredWith yX9_enteredWith, Cond.code yX9_enteredWith cX9_enteredWith 3 (some .int), Cond.methodLink RL 178 yL_result, Cond.static yL_result, Cond.codeWith yL_result cL_result 4 (some .int) [(0, 9, 12, 19)], Cond.methodLink RL 85 yX8_result, Cond.instanceMethod yX8_result, Cond.selects RX8 yX8_result yX8_result]
def wsL_law0_r33 : List Cond := [Cond.code yX8_result cX8_result 2 (some .int), Cond.fieldLink RX8 209 "RangePropagator$Execution" "values" "[I", Cond.methodLink RL 180 yX9_result, Cond.instanceMethod yX9_result, Cond.selects RX9 yX9_result yX9_result, Cond.code yX9_result cX9_result 2 (some .int), Cond.methodLink RL 181 yX8_digest, Cond.instanceMethod yX8_digest, Cond.selects RX8 yX8_digest yX8_digest, Cond.code yX8_digest cX8_digest 4 (some .long), Cond.constantLong RX8 212 (89), Cond.constantLong RX8 218 (31), Cond.methodLink RX8 214 yX8_digestProgram, Cond.instanceMethod yX8_digestProgram, Cond.selects RX8 yX8_digestProgram yX8_digestProgram, Cond.code yX8_digestProgram cX8_digestProgram 6 (some .long), Cond.methodLink RX8 220 yX8_digestAnalysis, Cond.instanceMethod yX8_digestAnalysis, Cond.selects RX8 yX8_digestAnalysis yX8_digestAnalysis, Cond.code yX8_digestAnalysis cX8_digestAnalysis 7 (some .long), Cond.methodLink RX8 223 yX8_digestRanges, Cond.static yX8_digestRanges, Cond.code yX8_digestRanges cX8_digestRanges 6 (some .long), Cond.methodLink RL 185 yX9_digest]
def wsL_law0_r34 : List Cond := [Cond.instanceMethod yX9_digest, Cond.selects RX9 yX9_digest yX9_digest, Cond.code yX9_digest cX9_digest 5 (some .long), Cond.constantLong RX9 212 (2759), Cond.constantLong RX9 214 (31)]
def wsL_law0 : List Cond := (wsL_law0_r1 ++ (wsL_law0_r2 ++ (wsL_law0_r3 ++ (wsL_law0_r4 ++ (wsL_law0_r5 ++ (wsL_law0_r6 ++ (wsL_law0_r7 ++ (wsL_law0_r8 ++ (wsL_law0_r9 ++ (wsL_law0_r10 ++ (wsL_law0_r11 ++ (wsL_law0_r12 ++ (wsL_law0_r13 ++ (wsL_law0_r14 ++ (wsL_law0_r15 ++ (wsL_law0_r16 ++ (wsL_law0_r17 ++ (wsL_law0_r18 ++ (wsL_law0_r19 ++ (wsL_law0_r20 ++ (wsL_law0_r21 ++ (wsL_law0_r22 ++ (wsL_law0_r23 ++ (wsL_law0_r24 ++ (wsL_law0_r25 ++ (wsL_law0_r26 ++ (wsL_law0_r27 ++ (wsL_law0_r28 ++ (wsL_law0_r29 ++ (wsL_law0_r30 ++ (wsL_law0_r31 ++ (wsL_law0_r32 ++ (wsL_law0_r33 ++ wsL_law0_r34))))))))))))))))))))))))))))))))) ++ wsX80 ++ wsX90 ++ wsX50 ++ wsX60 ++ wsX00 ++ wsX30 ++ wsX70 ++ wsX20 ++ wsX40 ++ ([] : List Cond)
def wsL_law : List Cond := wsL_law0 ++ (vx_atS RX8 49 "java/lang/IllegalStateException" ["java/lang/RuntimeException", "java/lang/Exception"]).filter goodWord ++ (vx_atS RX8 175 "java/lang/IndexOutOfBoundsException" ["java/lang/RuntimeException", "java/lang/Exception"]).filter goodWord ++ (vx_atS RX8 97 "java/lang/IllegalArgumentException" ["java/lang/RuntimeException", "java/lang/Exception"]).filter goodWord ++ nxA.filter goodWord
abbrev vwCl : List vw_C := [(RX0, TX0, 3), (RX2, TX2, 10), (RX3, TX3, 5), (RX4, TX4, 4), (RX5, TX5, 3), (RX6, TX6, 4), (RX7, TX7, 3), (RX8, TX8, 5), (RX9, TX9, 31)]
end
section
/-! ===== index worlds: cells k < n at the addresses ad k, of a shape that never changes; ints in M k j, the long of a cell in J k ===== -/
abbrev wM : Type := Nat → Nat → Int32
abbrev wJ : Type := Nat → Int64
abbrev wSh : Type := (Nat × Nat) ⊕ ((Nat × Nat × (Nat → Nat)) ⊕ (Nat × List (Option (Option Nat))))
def wU (M : wM) (k j : Nat) (v : Int32) : wM := va_up M k (upd (M k) j v)
def wF (ad : Nat → Nat) (m : Nat → Int32) (x : Int64) (j : Nat) (d : Option (Option Nat)) : Value := match d with
  | none => .int (m j)
  | some none => .long x
  | some (some t) => .ref (ad t)
def wE (sh : Nat → wSh) (ad : Nat → Nat) (cs : Nat → ClassId) (M : wM) (J : wJ) (k : Nat) : va_E := match sh k with
  | .inl a => .inl (cs a.1, a.2, .inl (M k))
  | .inr (.inl a) => .inl (cs a.1, a.2.1, .inr (.inr (.inr (.inr (fun i => some (ad (a.2.2 i)))))))
  | .inr (.inr o) => .inr (o.1, o.2.mapIdx (wF ad (M k) (J k)))
def wW (n : Nat) (sh : Nat → wSh) (ad : Nat → Nat) (cs : Nat → ClassId) (M : wM) (J : wJ) : va_W := (List.range n).map fun k => (ad k, wE sh ad cs M J k)
/-- the array classes: int, boolean, Block, Flow, State, long -/
def wT (cs : Nat → ClassId) : List (ClassId × FieldType) := [(cs 0, .int), (cs 1, .boolean), (cs 2, .object "RangePropagator$Block"), (cs 3, .object "RangePropagator$Flow"), (cs 4, .object "RangePropagator$State"), (cs 5, .long)]
/-- the cells of a world, and what comes from sz on -/
def wA (n : Nat) (ad : Nat → Nat) (sz : Nat) : Nat → Prop := fun q => (∃ k, k < n ∧ q = ad k) ∨ sz ≤ q
def wI (D : va_G) (n : Nat) (sh : Nat → wSh) (ad : Nat → Nat) (cs : Nat → ClassId) (A : Nat → Prop) (H0 : Heap) (M : wM) (J : wJ) (H : Heap) (locs : List Loc) : Prop :=
  va_P D vwCl (wW n sh ad cs M J) H ∧ va_D A (wW n sh ad cs M J) ∧ va_S A H0 H locs
/-- the world behind a method -/
def wB (D : va_G) (n : Nat) (sh : Nat → wSh) (ad : Nat → Nat) (cs : Nat → ClassId) (A : Nat → Prop) (u : wM × wJ) (t : State) : Prop :=
  va_P D vwCl (wW n sh ad cs u.1 u.2) t.heap ∧ va_K D vwCl (wT cs) t ∧ va_D A (wW n sh ad cs u.1 u.2)
/-- a method's start -/
def wP (D : va_G) (n : Nat) (sh : Nat → wSh) (ad : Nat → Nat) (cs : Nat → ClassId) (av : List Value) (sz : Nat) (M : wM) (J : wJ) : Array Value → State → Prop :=
  va_Pc av (fun U => U.heap.size = sz ∧ wB D n sh ad cs (fun _ => True) (M, J) U)
/-- contracts: int (and boolean), long, void -/
def wCi (l : Launch) (y : MethodName) (ws : List Cond) (rm : Room) (D : va_G) (n : Nat) (sh : Nat → wSh) (ad : Nat → Nat) (cs : Nat → ClassId) (av : List Value) (sz : Nat) (M : wM) (J : wJ) (post : Int32 → wM × wJ → Prop) : Prop :=
  Met l y ws rm (wP D n sh ad cs av sz M J) (va_Qi post (wB D n sh ad cs (wA n ad sz)) (wA n ad sz)) 0 0 (wA n ad sz)
def wCl (l : Launch) (y : MethodName) (ws : List Cond) (rm : Room) (D : va_G) (n : Nat) (sh : Nat → wSh) (ad : Nat → Nat) (cs : Nat → ClassId) (av : List Value) (sz : Nat) (M : wM) (J : wJ) (post : Int64 → wM × wJ → Prop) : Prop :=
  Met l y ws rm (wP D n sh ad cs av sz M J) (va_Ql post (wB D n sh ad cs (wA n ad sz)) (wA n ad sz)) 0 0 (wA n ad sz)
def wCv (l : Launch) (y : MethodName) (ws : List Cond) (rm : Room) (D : va_G) (n : Nat) (sh : Nat → wSh) (ad : Nat → Nat) (cs : Nat → ClassId) (av : List Value) (sz : Nat) (M : wM) (J : wJ) (post : wM × wJ → Prop) : Prop :=
  Met l y ws rm (wP D n sh ad cs av sz M J) (va_Qv post (wB D n sh ad cs (wA n ad sz)) (wA n ad sz)) 0 0 (wA n ad sz)
section WL
variable {n : Nat} {sh : Nat → wSh} {ad : Nat → Nat} {cs : Nat → ClassId} {M M' : wM} {J J' : wJ} {D : va_G} {A : Nat → Prop}
theorem wW_get {k : Nat} (h : k < n) : (wW n sh ad cs M J)[k]? = some (ad k, wE sh ad cs M J k) := by
  simp [wW, List.getElem?_map, List.getElem?_range h]
theorem wW_len : (wW n sh ad cs M J).length = n := by simp [wW]
theorem wE_congr {a : Nat} (hM : M' a = M a) (hJ : J' a = J a) : wE sh ad cs M' J' a = wE sh ad cs M J a := by
  unfold wE; rw [hM, hJ]
theorem wW_set {k : Nat} (h : k < n) {e : va_E} (he : wE sh ad cs M' J' k = e) (hM : ∀ a, a ≠ k → M' a = M a) (hJ : ∀ a, a ≠ k → J' a = J a) : (wW n sh ad cs M J).set k (ad k, e) = wW n sh ad cs M' J' := by
  apply List.ext_getElem?
  intro i
  by_cases hi : i = k
  · subst hi
    rw [List.getElem?_set_self (by rw [wW_len]; exact h), wW_get h, he]
  · rw [List.getElem?_set_ne (Ne.symm hi)]
    by_cases hl : i < n
    · rw [wW_get hl, wW_get hl, wE_congr (hM i hi) (hJ i hi)]
    · rw [List.getElem?_eq_none (by rw [wW_len]; omega), List.getElem?_eq_none (by rw [wW_len]; omega)]
theorem wU_self {k j : Nat} {v : Int32} : wU M k j v k = upd (M k) j v := by unfold wU; exact va_up_self _ _ _
theorem wU_ne {k j a : Nat} {v : Int32} (h : a ≠ k) : wU M k j v a = M a := by unfold wU; exact va_up_ne _ _ h
theorem wE_i {k t len : Nat} (hs : sh k = .inl (t, len)) : wE sh ad cs M J k = .inl (cs t, len, .inl (M k)) := by unfold wE; rw [hs]
theorem wE_r {k t len : Nat} {g : Nat → Nat} (hs : sh k = .inr (.inl (t, len, g))) : wE sh ad cs M J k = .inl (cs t, len, .inr (.inr (.inr (.inr (fun i => some (ad (g i))))))) := by unfold wE; rw [hs]
theorem wE_o {k ci : Nat} {ds : List (Option (Option Nat))} (hs : sh k = .inr (.inr (ci, ds))) : wE sh ad cs M J k = .inr (ci, ds.mapIdx (wF ad (M k) (J k))) := by unfold wE; rw [hs]
theorem wF_set_i {m : Nat → Int32} {x : Int64} {ds : List (Option (Option Nat))} {j : Nat} {v : Int32} (hd : ds[j]? = some none) : (ds.mapIdx (wF ad m x)).set j (.int v) = ds.mapIdx (wF ad (upd m j v) x) := by
  apply List.ext_getElem?
  intro i
  have hl := (List.getElem?_eq_some_iff.mp hd).1
  by_cases hi : i = j
  · subst hi
    rw [List.getElem?_set_self (by simpa using hl), List.getElem?_mapIdx, hd]
    simp [wF, upd]
  · rw [List.getElem?_set_ne (Ne.symm hi), List.getElem?_mapIdx, List.getElem?_mapIdx]
    cases ds[i]? with
    | none => rfl
    | some d =>
      cases d with
      | none => simp [wF, upd, hi]
      | some d => cases d <;> rfl
theorem wF_set_l {m : Nat → Int32} {x y : Int64} {ds : List (Option (Option Nat))} {j : Nat} (hd : ds[j]? = some (some none)) (hu : ∀ i, ds[i]? = some (some none) → i = j) : (ds.mapIdx (wF ad m x)).set j (.long y) = ds.mapIdx (wF ad m y) := by
  apply List.ext_getElem?
  intro i
  have hl := (List.getElem?_eq_some_iff.mp hd).1
  by_cases hi : i = j
  · subst hi
    rw [List.getElem?_set_self (by simpa using hl), List.getElem?_mapIdx, hd]
    simp [wF]
  · rw [List.getElem?_set_ne (Ne.symm hi), List.getElem?_mapIdx, List.getElem?_mapIdx]
    cases hq : ds[i]? with
    | none => rfl
    | some d =>
      cases d with
      | none => simp [wF]
      | some d =>
        cases d with
        | none => exact absurd (hu i hq) hi
        | some t => simp [wF]
theorem wD_any (h : va_D A (wW n sh ad cs M J)) : va_D A (wW n sh ad cs M' J') := by
  have key : ∀ (k : Nat) (q : Nat × va_E), (wW n sh ad cs M' J')[k]? = some q → k < n ∧ q.1 = ad k := by
    intro k q hk
    by_cases hl : k < n
    · rw [wW_get hl] at hk; cases hk; exact ⟨hl, rfl⟩
    · rw [List.getElem?_eq_none (by rw [wW_len]; omega)] at hk; cases hk
  refine ⟨fun i j x y hi hj hxy => ?_, fun k q hk => ?_⟩
  · obtain ⟨l1, e1⟩ := key i x hi
    obtain ⟨l2, e2⟩ := key j y hj
    exact h.1 i j _ _ (wW_get l1) (wW_get l2) (by show ad i = ad j; rw [← e1, ← e2]; exact hxy)
  · obtain ⟨l1, e1⟩ := key k q hk
    rw [e1]
    exact h.2 k _ (wW_get l1)
theorem wD_in (h : va_D A (wW n sh ad cs M J)) {k : Nat} (hk : k < n) : A (ad k) := h.2 k _ (wW_get hk)
theorem wD_inj (h : va_D A (wW n sh ad cs M J)) {i j : Nat} (hi : i < n) (hj : j < n) (e : ad i = ad j) : i = j := h.1 i j _ _ (wW_get hi) (wW_get hj) e
theorem wD_self {sz : Nat} (h : va_D A (wW n sh ad cs M J)) : va_D (wA n ad sz) (wW n sh ad cs M J) := by
  refine ⟨h.1, fun k q hk => ?_⟩
  by_cases hl : k < n
  · rw [wW_get hl] at hk; cases hk; exact Or.inl ⟨k, hl, rfl⟩
  · rw [List.getElem?_eq_none (by rw [wW_len]; omega)] at hk; cases hk
theorem wB_moved {u : wM × wJ} {U V : State} (hvm : U.vm.Alike V.vm) (hh : V.heap = U.heap) (h : wB D n sh ad cs A u U) : wB D n sh ad cs A u V := ⟨by rw [hh]; exact h.1, va_K.moved hvm h.2.1, h.2.2⟩
theorem wP_blind {av : List Value} {sz : Nat} : FrameBlind (wP D n sh ad cs av sz M J) := fun a U g mk q => by
  obtain ⟨q0, q1, q2⟩ := q
  exact ⟨q0, q1, wB_moved (Vm.Alike.refl U.vm) rfl q2⟩
theorem wP_at {A : Nat → Prop} {s : State} {H : Heap} {av : List Value} (hK : va_K D vwCl (wT cs) s) (hP : va_P D vwCl (wW n sh ad cs M J) H) (hD : va_D A (wW n sh ad cs M J)) : ∀ U : State, U.heap = H → s.WarmedH U.vm → wP D n sh ad cs av H.size M J av.toArray U := fun U hU hW =>
  ⟨rfl, by rw [hU], by rw [hU]; exact hP, va_K.moved hW.alike hK, hD.weaken (fun _ _ _ _ => trivial)⟩
end WL
section WR
variable {p : Program} {l : Launch} {e : Env} {R : Room} {s : State} {m : MethodId} {args : Array Value} {below : List Frame} {meth : Method} {c : Code} {H : Heap} {locs : List Loc} {cells slots : Nat} {Q : State → Prop}
variable {cc : ByteArray} {pc : Nat} {ls : Array Slot} {rest : List Value}
variable {n : Nat} {sh : Nat → wSh} {ad : Nat → Nat} {cs : Nat → ClassId} {M : wM} {J : wJ} {D : va_G} {A : Nat → Prop} {H0 : Heap}
theorem wI_set {k : Nat} {e : va_E} {M' : wM} {J' : wJ} {H1 : Heap} {locs1 : List Loc} (hw : wI D n sh ad cs A H0 M J H locs) (hk : k < n) (he : wE sh ad cs M' J' k = e) (hM : ∀ a, a ≠ k → M' a = M a) (hJ : ∀ a, a ≠ k → J' a = J a) (hP : va_P D vwCl ((wW n sh ad cs M J).set k (ad k, e)) H1) (hS : va_S A H0 H1 locs1) : wI D n sh ad cs A H0 M' J' H1 locs1 := by
  rw [wW_set hk he hM hJ] at hP
  exact ⟨hP, wD_any hw.2.1, hS⟩
/-- getfield: an int, a long, a reference -/
theorem wr_gi (hexec : p.tables.exec = Jvm.exec) (hb : c.code = cc) {own ref C : String} {T : u_T} {N ci index : Nat} {ds : List (Option (Option Nat))} {Ts : List Cond} (hown : s.vm.findClass own = some m.cls) (hK : va_K D vwCl (wT cs) s) (hts : ∀ w ∈ Ts, w.before args s = true) (hin : ∀ w ∈ u_ws C T N, w ∈ Ts) (hc : vwCl[ci]? = some (C, T, N)) (j : Nat) (hj : j < N) (hlink : (Cond.fieldLink own index ref (T j).2.1 (T j).2.2.1).before args s = true) (hsame : ref = (T j).1)
    (hw : wI D n sh ad cs A H0 M J H locs) (k : Nat) (hk : k < n) (hs : sh k = .inr (.inr (ci, ds))) (hd : ds[j]? = some none) (hdg : decode cc pc = .ok (.getfield index, 3))
    (kk : W p l e R s m args below meth c H locs cells slots Q (F0 m (pc + 3) ls (.int (M k j) :: rest))) : W p l e R s m args below meth c H locs cells slots Q (F0 m pc ls (.ref (ad k) :: rest)) := by
  subst hsame
  refine va_get (D := D) (ci := ci) (C := C) (T := T) (N := N) hexec hb hts hin hown hK hw.1 k (by rw [wW_get hk, wE_o hs]) hc j hj hlink (fun _ h => h) ?_ hdg kk
  rw [List.getElem?_mapIdx, hd]; rfl
theorem wr_gl (hexec : p.tables.exec = Jvm.exec) (hb : c.code = cc) {own ref C : String} {T : u_T} {N ci index : Nat} {ds : List (Option (Option Nat))} {Ts : List Cond} (hown : s.vm.findClass own = some m.cls) (hK : va_K D vwCl (wT cs) s) (hts : ∀ w ∈ Ts, w.before args s = true) (hin : ∀ w ∈ u_ws C T N, w ∈ Ts) (hc : vwCl[ci]? = some (C, T, N)) (j : Nat) (hj : j < N) (hlink : (Cond.fieldLink own index ref (T j).2.1 (T j).2.2.1).before args s = true) (hsame : ref = (T j).1)
    (hw : wI D n sh ad cs A H0 M J H locs) (k : Nat) (hk : k < n) (hs : sh k = .inr (.inr (ci, ds))) (hd : ds[j]? = some (some none)) (hdg : decode cc pc = .ok (.getfield index, 3))
    (kk : W p l e R s m args below meth c H locs cells slots Q (F0 m (pc + 3) ls (.long (J k) :: rest))) : W p l e R s m args below meth c H locs cells slots Q (F0 m pc ls (.ref (ad k) :: rest)) := by
  subst hsame
  refine va_get (D := D) (ci := ci) (C := C) (T := T) (N := N) hexec hb hts hin hown hK hw.1 k (by rw [wW_get hk, wE_o hs]) hc j hj hlink (fun _ h => h) ?_ hdg kk
  rw [List.getElem?_mapIdx, hd]; rfl
theorem wr_gr (hexec : p.tables.exec = Jvm.exec) (hb : c.code = cc) {own ref C : String} {T : u_T} {N ci index : Nat} {ds : List (Option (Option Nat))} {Ts : List Cond} (hown : s.vm.findClass own = some m.cls) (hK : va_K D vwCl (wT cs) s) (hts : ∀ w ∈ Ts, w.before args s = true) (hin : ∀ w ∈ u_ws C T N, w ∈ Ts) (hc : vwCl[ci]? = some (C, T, N)) (j : Nat) (hj : j < N) (hlink : (Cond.fieldLink own index ref (T j).2.1 (T j).2.2.1).before args s = true) (hsame : ref = (T j).1)
    (hw : wI D n sh ad cs A H0 M J H locs) (k : Nat) (hk : k < n) (t : Nat) (hs : sh k = .inr (.inr (ci, ds))) (hd : ds[j]? = some (some (some t))) (hdg : decode cc pc = .ok (.getfield index, 3))
    (kk : W p l e R s m args below meth c H locs cells slots Q (F0 m (pc + 3) ls (.ref (ad t) :: rest))) : W p l e R s m args below meth c H locs cells slots Q (F0 m pc ls (.ref (ad k) :: rest)) := by
  subst hsame
  refine va_get (D := D) (ci := ci) (C := C) (T := T) (N := N) hexec hb hts hin hown hK hw.1 k (by rw [wW_get hk, wE_o hs]) hc j hj hlink (fun _ h => h) ?_ hdg kk
  rw [List.getElem?_mapIdx, hd]; rfl
/-- putfield of an int or a boolean, of a long -/
theorem wr_pi (hexec : p.tables.exec = Jvm.exec) (hb : c.code = cc) {own ref C : String} {T : u_T} {N ci index : Nat} {ds : List (Option (Option Nat))} {Ts : List Cond} {ty0 : Nat → FieldType} (hown : s.vm.findClass own = some m.cls) (hK : va_K D vwCl (wT cs) s) (hts : ∀ w ∈ Ts, w.before args s = true) (hin : ∀ w ∈ u_ws C T N, w ∈ Ts) (hty : ∀ k, k < N → parseFieldDescriptor (T k).2.2.1 = some (ty0 k)) (hnm : ∀ a, a < N → ∀ b, b < N → a ≠ b → (T a).2.1 ≠ (T b).2.1) (hc : vwCl[ci]? = some (C, T, N)) (j : Nat) (hj : j < N) (hlink : (Cond.fieldLink own index ref (T j).2.1 (T j).2.2.1).before args s = true) (hsame : ref = (T j).1) (hfin : (T j).2.2.2 = false)
    (hw : wI D n sh ad cs A H0 M J H locs) (k : Nat) (hk : k < n) (hs : sh k = .inr (.inr (ci, ds))) (hd : ds[j]? = some none) {v : Int32} (hn : narrow (ty0 j) (.int v) = .int v) (hfit : fits (ty0 j) (.int v) = true) (hdg : decode cc pc = .ok (.putfield index, 3))
    (kk : ∀ (H1 : Heap) (locs1 : List Loc), wI D n sh ad cs A H0 (wU M k j v) J H1 locs1 → W p l e R s m args below meth c H1 locs1 cells slots Q (F0 m (pc + 3) ls rest)) : W p l e R s m args below meth c H locs cells slots Q (F0 m pc ls (.int v :: .ref (ad k) :: rest)) := by
  subst hsame
  refine va_put (D := D) (ci := ci) (v := .int v) (ty := ty0 j) (C := C) (T := T) (N := N) hexec hb hts hin ty0 hty hnm hown hK hw.1 hw.2.1 hw.2.2 k (by rw [wW_get hk, wE_o hs]) hc j hj hlink (fun _ h => h) hfin (hty j hj) hn hfit ?_ hdg (fun H1 locs1 hP hD hS => kk H1 locs1 (wI_set hw hk ?_ (fun a ha => wU_ne ha) (fun _ _ => rfl) hP hS))
  · rw [List.length_mapIdx]; exact (List.getElem?_eq_some_iff.mp hd).1
  · rw [wE_o hs, wU_self, wF_set_i hd]
theorem wr_pl (hexec : p.tables.exec = Jvm.exec) (hb : c.code = cc) {own ref C : String} {T : u_T} {N ci index : Nat} {ds : List (Option (Option Nat))} {Ts : List Cond} {ty0 : Nat → FieldType} (hown : s.vm.findClass own = some m.cls) (hK : va_K D vwCl (wT cs) s) (hts : ∀ w ∈ Ts, w.before args s = true) (hin : ∀ w ∈ u_ws C T N, w ∈ Ts) (hty : ∀ k, k < N → parseFieldDescriptor (T k).2.2.1 = some (ty0 k)) (hnm : ∀ a, a < N → ∀ b, b < N → a ≠ b → (T a).2.1 ≠ (T b).2.1) (hc : vwCl[ci]? = some (C, T, N)) (j : Nat) (hj : j < N) (hlink : (Cond.fieldLink own index ref (T j).2.1 (T j).2.2.1).before args s = true) (hsame : ref = (T j).1) (hfin : (T j).2.2.2 = false)
    (hw : wI D n sh ad cs A H0 M J H locs) (k : Nat) (hk : k < n) (hs : sh k = .inr (.inr (ci, ds))) (hd : ds[j]? = some (some none)) (hu : ∀ i, ds[i]? = some (some none) → i = j) {v : Int64} (hn : narrow (ty0 j) (.long v) = .long v) (hfit : fits (ty0 j) (.long v) = true) (hdg : decode cc pc = .ok (.putfield index, 3))
    (kk : ∀ (H1 : Heap) (locs1 : List Loc), wI D n sh ad cs A H0 M (va_up J k v) H1 locs1 → W p l e R s m args below meth c H1 locs1 cells slots Q (F0 m (pc + 3) ls rest)) : W p l e R s m args below meth c H locs cells slots Q (F0 m pc ls (.long v :: .ref (ad k) :: rest)) := by
  subst hsame
  refine va_put (D := D) (ci := ci) (v := .long v) (ty := ty0 j) (C := C) (T := T) (N := N) hexec hb hts hin ty0 hty hnm hown hK hw.1 hw.2.1 hw.2.2 k (by rw [wW_get hk, wE_o hs]) hc j hj hlink (fun _ h => h) hfin (hty j hj) hn hfit ?_ hdg (fun H1 locs1 hP hD hS => kk H1 locs1 (wI_set hw hk ?_ (fun _ _ => rfl) (fun a ha => va_up_ne _ _ ha) hP hS))
  · rw [List.length_mapIdx]; exact (List.getElem?_eq_some_iff.mp hd).1
  · rw [wE_o hs, va_up_self, wF_set_l hd hu]
/-- arrays: iaload, iastore, baload, bastore (boolean), aaload -/
theorem wr_ild (hexec : p.tables.exec = Jvm.exec) (hb : c.code = cc) (hK : va_K D vwCl (wT cs) s) (hw : wI D n sh ad cs A H0 M J H locs) (k : Nat) (hk : k < n) {len : Nat} (hs : sh k = .inl (0, len)) {i : Int32} (hin : vp_in i len) (hdg : decode cc pc = .ok (.iaload, 1))
    (kk : W p l e R s m args below meth c H locs cells slots Q (F0 m (pc + 1) ls (.int (M k i.toNatClampNeg) :: rest))) : W p l e R s m args below meth c H locs cells slots Q (F0 m pc ls (.int i :: .ref (ad k) :: rest)) :=
  va_iald hexec hb hK hw.1 k 0 (by rw [wW_get hk, wE_i hs]) rfl hin hdg kk
theorem wr_ist (hexec : p.tables.exec = Jvm.exec) (hb : c.code = cc) (hK : va_K D vwCl (wT cs) s) (hw : wI D n sh ad cs A H0 M J H locs) (k : Nat) (hk : k < n) {len : Nat} (hs : sh k = .inl (0, len)) {i x : Int32} (hin : vp_in i len) (hdg : decode cc pc = .ok (.iastore, 1))
    (kk : ∀ (H1 : Heap) (locs1 : List Loc), wI D n sh ad cs A H0 (wU M k i.toNatClampNeg x) J H1 locs1 → W p l e R s m args below meth c H1 locs1 cells slots Q (F0 m (pc + 1) ls rest)) : W p l e R s m args below meth c H locs cells slots Q (F0 m pc ls (.int x :: .int i :: .ref (ad k) :: rest)) :=
  va_iast hexec hb hK hw.1 hw.2.1 hw.2.2 k 0 (by rw [wW_get hk, wE_i hs]) rfl hin hdg (fun H1 locs1 hP hD hS => kk H1 locs1 (wI_set hw hk (by rw [wE_i hs, wU_self]) (fun a ha => wU_ne ha) (fun _ _ => rfl) hP hS))
theorem wr_zld (hexec : p.tables.exec = Jvm.exec) (hb : c.code = cc) (hK : va_K D vwCl (wT cs) s) (hw : wI D n sh ad cs A H0 M J H locs) (k : Nat) (hk : k < n) {len : Nat} (hs : sh k = .inl (1, len)) {i : Int32} (hin : vp_in i len) (hdg : decode cc pc = .ok (.baload, 1))
    (kk : W p l e R s m args below meth c H locs cells slots Q (F0 m (pc + 1) ls (.int (M k i.toNatClampNeg) :: rest))) : W p l e R s m args below meth c H locs cells slots Q (F0 m pc ls (.int i :: .ref (ad k) :: rest)) :=
  va_zald hexec hb hK hw.1 k 1 (by rw [wW_get hk, wE_i hs]) rfl hin hdg kk
theorem wr_ald (hexec : p.tables.exec = Jvm.exec) (hb : c.code = cc) (hK : va_K D vwCl (wT cs) s) (hw : wI D n sh ad cs A H0 M J H locs) (k : Nat) (hk : k < n) {t0 len : Nat} {C : String} {g : Nat → Nat} (hs : sh k = .inr (.inl (t0, len, g))) (ht : (wT cs)[t0]? = some (cs t0, .object C)) {i : Int32} (hin : vp_in i len) (hdg : decode cc pc = .ok (.aaload, 1))
    (kk : W p l e R s m args below meth c H locs cells slots Q (F0 m (pc + 1) ls (.ref (ad (g i.toNatClampNeg)) :: rest))) : W p l e R s m args below meth c H locs cells slots Q (F0 m pc ls (.int i :: .ref (ad k) :: rest)) :=
  va_aldq (f := fun i => some (ad (g i))) hexec hb hK hw.1 k t0 (by rw [wW_get hk, wE_r hs]) ht hin hdg kk
/-- the ends -/
theorem wr_iret {post : Int32 → wM × wJ → Prop} {v : Int32} {ty : FieldType} (hexec : p.tables.exec = Jvm.exec) (hb : c.code = cc) (hr : meth.sig.returnType = some ty) (hn : narrow ty (.int v) = .int v) (hK : va_K D vwCl (wT cs) s) (hw : wI D n sh ad cs A s.heap M J H locs) (hp : post v (M, J)) (hlocks : meth.locks = false) (hdg : decode cc pc = .ok (.ireturn, 1)) :
    W p l e R s m args below meth c H locs cells slots (MQ below (va_Qi post (wB D n sh ad cs A) A) args s cells slots A) (F0 m pc ls [.int v]) :=
  W.zret (v := v) hexec hb hr hn (fun t ht hW => ⟨⟨v, (M, J), rfl, hp, by rw [ht]; exact hw.1, va_K.moved hW.alike hK, hw.2.1⟩, hw.2.2.F ht⟩) hw.2.2.2.2 hdg hlocks
theorem wr_lret {post : Int64 → wM × wJ → Prop} {v : Int64} (hexec : p.tables.exec = Jvm.exec) (hb : c.code = cc) (hr : meth.sig.returnType = some .long) (hK : va_K D vwCl (wT cs) s) (hw : wI D n sh ad cs A s.heap M J H locs) (hp : post v (M, J)) (hlocks : meth.locks = false) (hdg : decode cc pc = .ok (.lreturn, 1)) :
    W p l e R s m args below meth c H locs cells slots (MQ below (va_Ql post (wB D n sh ad cs A) A) args s cells slots A) (F0 m pc ls [.long v]) :=
  W.lret (v := v) hexec hb hr (fun t ht hW => ⟨⟨v, (M, J), rfl, hp, by rw [ht]; exact hw.1, va_K.moved hW.alike hK, hw.2.1⟩, hw.2.2.F ht⟩) hw.2.2.2.2 hdg hlocks
theorem wr_vret {post : wM × wJ → Prop} (hexec : p.tables.exec = Jvm.exec) (hb : c.code = cc) (hr : meth.sig.returnType = none) (hK : va_K D vwCl (wT cs) s) (hw : wI D n sh ad cs A s.heap M J H locs) (hp : post (M, J)) (hlocks : meth.locks = false) (hdg : decode cc pc = .ok (.return_, 1)) :
    W p l e R s m args below meth c H locs cells slots (MQ below (va_Qv post (wB D n sh ad cs A) A) args s cells slots A) (F0 m pc ls []) :=
  W.vret hexec hb hr (fun t ht hW => ⟨⟨(M, J), rfl, hp, by rw [ht]; exact hw.1, va_K.moved hW.alike hK, hw.2.1⟩, hw.2.2.F ht⟩) hw.2.2.2.2 hdg hlocks
end WR
end
section
section WX
variable {p : Program} {l : Launch} {e : Env} {R : Room} {s : State} {m : MethodId} {args : Array Value} {below : List Frame} {meth : Method} {c : Code} {H : Heap} {locs : List Loc} {cells slots : Nat} {Q : State → Prop}
variable {cc : ByteArray} {pc : Nat} {ls : Array Slot} {rest : List Value}
variable {n : Nat} {sh : Nat → wSh} {ad : Nat → Nat} {cs : Nat → ClassId} {M : wM} {J : wJ} {D : va_G} {A : Nat → Prop} {H0 : Heap}
theorem wA_in {M' : wM} {J' : wJ} (hw : wI D n sh ad cs A H0 M J H locs) (hA : ∀ q : Nat, H0.size ≤ q → A q) : ∀ q, wA n ad H.size q → A q := fun q h => by
  rcases h with ⟨k, hk, rfl⟩ | h
  · exact wD_in hw.2.1 hk
  · exact hA q (Nat.le_trans hw.2.2.1 h)
theorem wI_of {u : wM × wJ} {t : State} {H1 : Heap} {locs1 : List Loc} (hw : wI D n sh ad cs A H0 M J H locs) (ht : t.heap = H1) (hB : wB D n sh ad cs (wA n ad H.size) u t) (hS : va_S A H0 H1 locs1) : wI D n sh ad cs A H0 u.1 u.2 H1 locs1 :=
  ⟨by rw [← ht]; exact hB.1, wD_any hw.2.1, hS⟩
variable {nL : Nat} {Ts : List Cond} {own C : String} {y : MethodName} {ws : List Cond} {rm : Room} {st0 As : List Value} {bytes : ByteArray} {maxL index na : Nat} {ret : Option FieldType}
/-- calls by name on an object of the world -/
theorem wr_cVi {post : Int32 → wM × wJ → Prop} {k ci : Nat} {ds : List (Option (Option Nat))} {T : u_T} {N : Nat} (S : CallFix p m c cc nL s args Ts own) (cw : CallW R s args own C index y bytes maxL ret ws rm 0 0 na) (hK : va_K D vwCl (wT cs) s) (hA : ∀ q : Nat, H0.size ≤ q → A q) (hw : wI D n sh ad cs A H0 M J H locs) (hM : wCi l y ws rm D n sh ad cs (.ref (ad k) :: As) H.size M J post) (hk : k < n) (hs : sh k = .inr (.inr (ci, ds))) (hc : vwCl[ci]? = some (C, T, N)) (hst : st0 = As.reverse ++ .ref (ad k) :: rest) (hn : As.length = na) (hl : ls.size = nL) (hr : (rest.map fun v => v.category).sum ≤ 8) (hf : cells ≤ R.cells ∧ slots ≤ R.slots) (hdg : decode cc pc = .ok (.invokevirtual index, 3))
    (kk : ∀ (r : Int32) (M' : wM) (J' : wJ) (H1 : Heap) (locs1 : List Loc), post r (M', J') → wI D n sh ad cs A H0 M' J' H1 locs1 → W p l e R s m args below meth c H1 locs1 cells slots Q (F0 m (pc + 3) ls (.int r :: rest))) : W p l e R s m args below meth c H locs cells slots Q (F0 m pc ls st0) := by
  refine va_calli (va_runV (As := As) (rest := rest) S hM cw ⟨wP_blind, va_recv hK hw.1 hc (by rw [wW_get hk, wE_o hs]), wP_at hK hw.1 hw.2.1⟩ rfl hn hl hst (lv_room hr) hdg hf) hw.2.2 (fun q _ h => wA_in (M' := M) (J' := J) hw hA q h) (wA_in (M' := M) (J' := J) hw hA) (fun r u t H1 locs1 ht hvm hq hB hz1 hk1 hS => ?_)
  exact kk r u.1 u.2 H1 locs1 hq (wI_of hw ht hB hS)
theorem wr_cVl {post : Int64 → wM × wJ → Prop} {k ci : Nat} {ds : List (Option (Option Nat))} {T : u_T} {N : Nat} (S : CallFix p m c cc nL s args Ts own) (cw : CallW R s args own C index y bytes maxL ret ws rm 0 0 na) (hK : va_K D vwCl (wT cs) s) (hA : ∀ q : Nat, H0.size ≤ q → A q) (hw : wI D n sh ad cs A H0 M J H locs) (hM : wCl l y ws rm D n sh ad cs (.ref (ad k) :: As) H.size M J post) (hk : k < n) (hs : sh k = .inr (.inr (ci, ds))) (hc : vwCl[ci]? = some (C, T, N)) (hst : st0 = As.reverse ++ .ref (ad k) :: rest) (hn : As.length = na) (hl : ls.size = nL) (hr : (rest.map fun v => v.category).sum ≤ 8) (hf : cells ≤ R.cells ∧ slots ≤ R.slots) (hdg : decode cc pc = .ok (.invokevirtual index, 3))
    (kk : ∀ (r : Int64) (M' : wM) (J' : wJ) (H1 : Heap) (locs1 : List Loc), post r (M', J') → wI D n sh ad cs A H0 M' J' H1 locs1 → W p l e R s m args below meth c H1 locs1 cells slots Q (F0 m (pc + 3) ls (.long r :: rest))) : W p l e R s m args below meth c H locs cells slots Q (F0 m pc ls st0) := by
  refine va_calll (va_runV (As := As) (rest := rest) S hM cw ⟨wP_blind, va_recv hK hw.1 hc (by rw [wW_get hk, wE_o hs]), wP_at hK hw.1 hw.2.1⟩ rfl hn hl hst (lv_room hr) hdg hf) hw.2.2 (fun q _ h => wA_in (M' := M) (J' := J) hw hA q h) (wA_in (M' := M) (J' := J) hw hA) (fun r u t H1 locs1 ht hvm hq hB hz1 hk1 hS => ?_)
  exact kk r u.1 u.2 H1 locs1 hq (wI_of hw ht hB hS)
theorem wr_cVv {post : wM × wJ → Prop} {k ci : Nat} {ds : List (Option (Option Nat))} {T : u_T} {N : Nat} (S : CallFix p m c cc nL s args Ts own) (cw : CallW R s args own C index y bytes maxL ret ws rm 0 0 na) (hK : va_K D vwCl (wT cs) s) (hA : ∀ q : Nat, H0.size ≤ q → A q) (hw : wI D n sh ad cs A H0 M J H locs) (hM : wCv l y ws rm D n sh ad cs (.ref (ad k) :: As) H.size M J post) (hk : k < n) (hs : sh k = .inr (.inr (ci, ds))) (hc : vwCl[ci]? = some (C, T, N)) (hst : st0 = As.reverse ++ .ref (ad k) :: rest) (hn : As.length = na) (hl : ls.size = nL) (hr : (rest.map fun v => v.category).sum ≤ 8) (hf : cells ≤ R.cells ∧ slots ≤ R.slots) (hdg : decode cc pc = .ok (.invokevirtual index, 3))
    (kk : ∀ (M' : wM) (J' : wJ) (H1 : Heap) (locs1 : List Loc), post (M', J') → wI D n sh ad cs A H0 M' J' H1 locs1 → W p l e R s m args below meth c H1 locs1 cells slots Q (F0 m (pc + 3) ls rest)) : W p l e R s m args below meth c H locs cells slots Q (F0 m pc ls st0) := by
  refine va_callv (va_runV (As := As) (rest := rest) S hM cw ⟨wP_blind, va_recv hK hw.1 hc (by rw [wW_get hk, wE_o hs]), wP_at hK hw.1 hw.2.1⟩ rfl hn hl hst (lv_room hr) hdg hf) hw.2.2 (fun q _ h => wA_in (M' := M) (J' := J) hw hA q h) (wA_in (M' := M) (J' := J) hw hA) (fun u t H1 locs1 ht hvm hq hB hz1 hk1 hS => ?_)
  exact kk u.1 u.2 H1 locs1 hq (wI_of hw ht hB hS)
/-- static calls -/
theorem wr_cSi {post : Int32 → wM × wJ → Prop} (S : CallFix p m c cc nL s args Ts own) (cw : CallB R s args own index y bytes maxL ret ws rm 0 0 na ∧ (Cond.static y).before args s = true) (hK : va_K D vwCl (wT cs) s) (hA : ∀ q : Nat, H0.size ≤ q → A q) (hw : wI D n sh ad cs A H0 M J H locs) (hM : wCi l y ws rm D n sh ad cs As H.size M J post) (hst : st0 = As.reverse ++ rest) (hn : As.length = na) (hl : ls.size = nL) (hr : (rest.map fun v => v.category).sum ≤ 8) (hf : cells ≤ R.cells ∧ slots ≤ R.slots) (hdg : decode cc pc = .ok (.invokestatic index, 3))
    (kk : ∀ (r : Int32) (M' : wM) (J' : wJ) (H1 : Heap) (locs1 : List Loc), post r (M', J') → wI D n sh ad cs A H0 M' J' H1 locs1 → W p l e R s m args below meth c H1 locs1 cells slots Q (F0 m (pc + 3) ls (.int r :: rest))) : W p l e R s m args below meth c H locs cells slots Q (F0 m pc ls st0) := by
  refine va_calli (va_runS (As := As) (rest := rest) S hM cw ⟨wP_blind, wP_at hK hw.1 hw.2.1⟩ rfl hn hl hst (lv_room hr) hdg hf) hw.2.2 (fun q _ h => wA_in (M' := M) (J' := J) hw hA q h) (wA_in (M' := M) (J' := J) hw hA) (fun r u t H1 locs1 ht hvm hq hB hz1 hk1 hS => ?_)
  exact kk r u.1 u.2 H1 locs1 hq (wI_of hw ht hB hS)
theorem wr_cSl {post : Int64 → wM × wJ → Prop} (S : CallFix p m c cc nL s args Ts own) (cw : CallB R s args own index y bytes maxL ret ws rm 0 0 na ∧ (Cond.static y).before args s = true) (hK : va_K D vwCl (wT cs) s) (hA : ∀ q : Nat, H0.size ≤ q → A q) (hw : wI D n sh ad cs A H0 M J H locs) (hM : wCl l y ws rm D n sh ad cs As H.size M J post) (hst : st0 = As.reverse ++ rest) (hn : As.length = na) (hl : ls.size = nL) (hr : (rest.map fun v => v.category).sum ≤ 8) (hf : cells ≤ R.cells ∧ slots ≤ R.slots) (hdg : decode cc pc = .ok (.invokestatic index, 3))
    (kk : ∀ (r : Int64) (M' : wM) (J' : wJ) (H1 : Heap) (locs1 : List Loc), post r (M', J') → wI D n sh ad cs A H0 M' J' H1 locs1 → W p l e R s m args below meth c H1 locs1 cells slots Q (F0 m (pc + 3) ls (.long r :: rest))) : W p l e R s m args below meth c H locs cells slots Q (F0 m pc ls st0) := by
  refine va_calll (va_runS (As := As) (rest := rest) S hM cw ⟨wP_blind, wP_at hK hw.1 hw.2.1⟩ rfl hn hl hst (lv_room hr) hdg hf) hw.2.2 (fun q _ h => wA_in (M' := M) (J' := J) hw hA q h) (wA_in (M' := M) (J' := J) hw hA) (fun r u t H1 locs1 ht hvm hq hB hz1 hk1 hS => ?_)
  exact kk r u.1 u.2 H1 locs1 hq (wI_of hw ht hB hS)
end WX
section WN
/-- what a method's body has at its entry -/
abbrev wEn (l : Launch) (y : MethodName) (ws : List Cond) (R : Room) (D : va_G) (n : Nat) (sh : Nat → wSh) (ad : Nat → Nat) (cs : Nat → ClassId) (cc : ByteArray) (maxL : Nat) (ret : Option FieldType) (av : List Value) (M : wM) (J : wJ) (Qq : Array Value → List Frame → State → (Nat → Prop) → State → Prop) : Prop :=
  ∀ (p : Program) (e : Env) (s : State) (m : MethodId) (below : List Frame) (meth : Method) (c : Code) (ls : Array Slot) (A : Nat → Prop), p.tables.exec = Jvm.exec → c.code = cc → meth.sig.returnType = ret → c.maxLocals = maxL → s.vm.findClass y.cls = some m.cls → (∀ w ∈ ws, w.before av.toArray s = true) → meth.locks = false → va_K D vwCl (wT cs) s → (∀ q : Nat, s.heap.size ≤ q → A q) → wI D n sh ad cs A s.heap M J s.heap [] → lv_has ls maxL (lv_args 0 av) →
    A = wA n ad s.heap.size → W p l e R s m av.toArray below meth c s.heap [] 0 0 (Qq av.toArray below s A) (F0 m 0 ls [])
variable {l : Launch} {y : MethodName} {ws ws' : List Cond} {rm : Room} {D : va_G} {n : Nat} {sh : Nat → wSh} {ad : Nat → Nat} {cs : Nat → ClassId} {cc : ByteArray} {maxL : Nat} {ret : Option FieldType} {av : List Value} {sz : Nat} {M : wM} {J : wJ}
theorem wC_i {post : Int32 → wM × wJ → Prop} (hy : plainName y.cls = true) (hw : ws = Cond.code y cc maxL ret :: ws') (hmax : (lg_sl av).length ≤ maxL)
    (body : wEn l y ws (headSpec ws rm).room D n sh ad cs cc maxL ret av M J (fun a below s A => MQ below (va_Qi post (wB D n sh ad cs A) A) a s 0 0 A)) : wCi l y ws rm D n sh ad cs av sz M J post := by
  refine Met.ofW (cc := cc) (maxL := maxL) (ret := ret) hy hw ?_
  intro p e s m args below meth c s₁ B hml hv
  obtain ⟨rfl, hsz, hP, hK, hD0⟩ := hv
  subst hsz
  have hl := lv_entry av (n := maxL) hmax
  rw [lg_entry_eq]
  exact body p e s m below meth c _ _ B.exec B.bytes B.returns hml (findClass_of_methodNamed B.named) (atoms_spec (ws := ws) B.pre) B.notSynchronized hK (fun q h => Or.inr h) ⟨hP, wD_self hD0, va_S.rf⟩ hl rfl
theorem wC_l {post : Int64 → wM × wJ → Prop} (hy : plainName y.cls = true) (hw : ws = Cond.code y cc maxL ret :: ws') (hmax : (lg_sl av).length ≤ maxL)
    (body : wEn l y ws (headSpec ws rm).room D n sh ad cs cc maxL ret av M J (fun a below s A => MQ below (va_Ql post (wB D n sh ad cs A) A) a s 0 0 A)) : wCl l y ws rm D n sh ad cs av sz M J post := by
  refine Met.ofW (cc := cc) (maxL := maxL) (ret := ret) hy hw ?_
  intro p e s m args below meth c s₁ B hml hv
  obtain ⟨rfl, hsz, hP, hK, hD0⟩ := hv
  subst hsz
  have hl := lv_entry av (n := maxL) hmax
  rw [lg_entry_eq]
  exact body p e s m below meth c _ _ B.exec B.bytes B.returns hml (findClass_of_methodNamed B.named) (atoms_spec (ws := ws) B.pre) B.notSynchronized hK (fun q h => Or.inr h) ⟨hP, wD_self hD0, va_S.rf⟩ hl rfl
theorem wC_v {post : wM × wJ → Prop} (hy : plainName y.cls = true) (hw : ws = Cond.code y cc maxL ret :: ws') (hmax : (lg_sl av).length ≤ maxL)
    (body : wEn l y ws (headSpec ws rm).room D n sh ad cs cc maxL ret av M J (fun a below s A => MQ below (va_Qv post (wB D n sh ad cs A) A) a s 0 0 A)) : wCv l y ws rm D n sh ad cs av sz M J post := by
  refine Met.ofW (cc := cc) (maxL := maxL) (ret := ret) hy hw ?_
  intro p e s m args below meth c s₁ B hml hv
  obtain ⟨rfl, hsz, hP, hK, hD0⟩ := hv
  subst hsz
  have hl := lv_entry av (n := maxL) hmax
  rw [lg_entry_eq]
  exact body p e s m below meth c _ _ B.exec B.bytes B.returns hml (findClass_of_methodNamed B.named) (atoms_spec (ws := ws) B.pre) B.notSynchronized hK (fun q h => Or.inr h) ⟨hP, wD_self hD0, va_S.rf⟩ hl rfl
end WN
end
section
set_option maxRecDepth 20000 in
theorem ggX0_init_X7_init : GoodIn wsX0_init wsX7_init := goodIn_r _ [14, 15, 2, 3, 16, 17, 18, 19, 32, 33, 34] (by decide +kernel) (by decide +kernel)
set_option maxRecDepth 20000 in
theorem gX0_init_X7_init_n19 : GoodIn wsX0_init (wsX7_init) := ggX0_init_X7_init
set_option maxRecDepth 20000 in
theorem ggX0_init_X4_init : GoodIn wsX0_init wsX4_init := goodIn_r _ [22, 23, 2, 3, 24, 7, 8, 25, 26, 27, 28, 13, 14, 15, 16, 17, 18, 19, 32, 33, 34, 35, 36, 37, 38] (by decide +kernel) (by decide +kernel)
set_option maxRecDepth 20000 in
theorem gX0_init_X4_init : GoodIn wsX0_init (wsX4_init) := ggX0_init_X4_init
theorem dX0_init_0 : decode cX0_init 0 = .ok (.aload_n 0, 1) := by decide +kernel
theorem dX0_init_1 : decode cX0_init 1 = .ok (.invokespecial 3, 3) := by decide +kernel
theorem dX0_init_4 : decode cX0_init 4 = .ok (.aload_n 0, 1) := by decide +kernel
theorem dX0_init_5 : decode cX0_init 5 = .ok (.bipush 16, 2) := by decide +kernel
theorem dX0_init_7 : decode cX0_init 7 = .ok (.anewarray 9, 3) := by decide +kernel
theorem dX0_init_10 : decode cX0_init 10 = .ok (.putfield 11, 3) := by decide +kernel
theorem dX0_init_13 : decode cX0_init 13 = .ok (.aload_n 0, 1) := by decide +kernel
theorem dX0_init_14 : decode cX0_init 14 = .ok (.new 17, 3) := by decide +kernel
theorem dX0_init_17 : decode cX0_init 17 = .ok (.dup, 1) := by decide +kernel
theorem dX0_init_18 : decode cX0_init 18 = .ok (.invokespecial 19, 3) := by decide +kernel
theorem dX0_init_21 : decode cX0_init 21 = .ok (.putfield 20, 3) := by decide +kernel
theorem dX0_init_24 : decode cX0_init 24 = .ok (.aload_n 0, 1) := by decide +kernel
theorem dX0_init_25 : decode cX0_init 25 = .ok (.new 17, 3) := by decide +kernel
theorem dX0_init_28 : decode cX0_init 28 = .ok (.dup, 1) := by decide +kernel
theorem dX0_init_29 : decode cX0_init 29 = .ok (.invokespecial 19, 3) := by decide +kernel
theorem dX0_init_32 : decode cX0_init 32 = .ok (.putfield 24, 3) := by decide +kernel
theorem dX0_init_35 : decode cX0_init 35 = .ok (.iconst 0, 1) := by decide +kernel
theorem dX0_init_36 : decode cX0_init 36 = .ok (.istore_n 1, 1) := by decide +kernel
theorem dX0_init_37 : decode cX0_init 37 = .ok (.iload_n 1, 1) := by decide +kernel
theorem dX0_init_38 : decode cX0_init 38 = .ok (.bipush 16, 2) := by decide +kernel
theorem dX0_init_40 : decode cX0_init 40 = .ok (.if_icmp .ge 22, 3) := by decide +kernel
theorem dX0_init_43 : decode cX0_init 43 = .ok (.aload_n 0, 1) := by decide +kernel
theorem dX0_init_44 : decode cX0_init 44 = .ok (.getfield 11, 3) := by decide +kernel
theorem dX0_init_47 : decode cX0_init 47 = .ok (.iload_n 1, 1) := by decide +kernel
theorem dX0_init_48 : decode cX0_init 48 = .ok (.new 9, 3) := by decide +kernel
theorem dX0_init_51 : decode cX0_init 51 = .ok (.dup, 1) := by decide +kernel
theorem dX0_init_52 : decode cX0_init 52 = .ok (.invokespecial 27, 3) := by decide +kernel
theorem dX0_init_55 : decode cX0_init 55 = .ok (.aastore, 1) := by decide +kernel
theorem dX0_init_56 : decode cX0_init 56 = .ok (.iinc 1 1, 3) := by decide +kernel
theorem dX0_init_59 : decode cX0_init 59 = .ok (.goto (-22), 3) := by decide +kernel
theorem dX0_init_62 : decode cX0_init 62 = .ok (.return_, 1) := by decide +kernel
set_option maxRecDepth 20000 in
theorem ggX0_forget_X4_makeNone : GoodIn wsX0_forget wsX4_makeNone := goodIn_r _ [6, 7, 8, 9, 10, 11, 15, 16, 17, 18, 19, 20, 21] (by decide +kernel) (by decide +kernel)
set_option maxRecDepth 20000 in
theorem gX0_forget_X4_makeNone : GoodIn wsX0_forget (wsV RX0 28 RX4 yX4_makeNone wsX4_makeNone) := goodIn_app (goodIn_of _ (by decide +kernel)) ggX0_forget_X4_makeNone
theorem dX0_forget_0 : decode cX0_forget 0 = .ok (.iconst 0, 1) := by decide +kernel
theorem dX0_forget_1 : decode cX0_forget 1 = .ok (.istore_n 1, 1) := by decide +kernel
theorem dX0_forget_2 : decode cX0_forget 2 = .ok (.iload_n 1, 1) := by decide +kernel
theorem dX0_forget_3 : decode cX0_forget 3 = .ok (.bipush 16, 2) := by decide +kernel
theorem dX0_forget_5 : decode cX0_forget 5 = .ok (.if_icmp .ge 18, 3) := by decide +kernel
theorem dX0_forget_8 : decode cX0_forget 8 = .ok (.aload_n 0, 1) := by decide +kernel
theorem dX0_forget_9 : decode cX0_forget 9 = .ok (.getfield 11, 3) := by decide +kernel
theorem dX0_forget_12 : decode cX0_forget 12 = .ok (.iload_n 1, 1) := by decide +kernel
theorem dX0_forget_13 : decode cX0_forget 13 = .ok (.aaload, 1) := by decide +kernel
theorem dX0_forget_14 : decode cX0_forget 14 = .ok (.invokevirtual 28, 3) := by decide +kernel
theorem dX0_forget_17 : decode cX0_forget 17 = .ok (.iinc 1 1, 3) := by decide +kernel
theorem dX0_forget_20 : decode cX0_forget 20 = .ok (.goto (-18), 3) := by decide +kernel
theorem dX0_forget_23 : decode cX0_forget 23 = .ok (.return_, 1) := by decide +kernel
set_option maxRecDepth 20000 in
theorem ggX0_makeRounds_X0_lookAt : GoodIn wsX0_makeRounds wsX0_lookAt := goodIn_r _ [7, 8, 9, 10, 11, 12, 13, 14, 15, 16, 17, 18, 6, 19, 20, 2, 21, 22, 23, 24, 25, 26, 27, 28, 29, 30, 31, 32, 33, 34, 35, 36, 37, 38, 39, 40, 41, 42, 43, 44, 45, 46, 47, 48, 49, 50, 51, 52, 53, 54, 55, 56, 57, 58, 59, 60, 61, 62, 63, 64, 65, 66, 67, 68, 69, 70, 71, 72, 73, 74, 75, 76, 77, 78, 79, 80, 81, 82, 83, 84, 85, 86, 87, 88, 89, 90, 91, 92, 93, 94, 95, 96, 97, 98, 99, 100, 101, 102, 103, 104, 105, 106, 107, 108, 109, 110, 111, 112, 113, 114, 115, 116, 117, 118, 119, 120, 121, 122, 123, 124, 125, 126, 127, 128, 129, 130, 131, 132, 133, 134, 135, 136, 137, 138, 139, 140, 141, 142, 143, 144, 145, 146, 147, 148, 149, 150, 151, 152, 156, 157, 158, 159, 160, 161, 162, 163, 164, 165, 166, 167, 168, 169, 153, 154, 155, 170, 171, 172, 173, 174, 175, 176, 177, 178, 179] (by decide +kernel) (by decide +kernel)
set_option maxRecDepth 20000 in
theorem gX0_makeRounds_X0_lookAt : GoodIn wsX0_makeRounds (wsV RX0 38 RX0 yX0_lookAt wsX0_lookAt) := goodIn_app (goodIn_of _ (by decide +kernel)) ggX0_makeRounds_X0_lookAt
theorem dX0_makeRounds_0 : decode cX0_makeRounds 0 = .ok (.iconst 1, 1) := by decide +kernel
theorem dX0_makeRounds_1 : decode cX0_makeRounds 1 = .ok (.istore_n 3, 1) := by decide +kernel
theorem dX0_makeRounds_2 : decode cX0_makeRounds 2 = .ok (.iconst 0, 1) := by decide +kernel
theorem dX0_makeRounds_3 : decode cX0_makeRounds 3 = .ok (.istore 4, 2) := by decide +kernel
theorem dX0_makeRounds_5 : decode cX0_makeRounds 5 = .ok (.iload_n 3, 1) := by decide +kernel
theorem dX0_makeRounds_6 : decode cX0_makeRounds 6 = .ok (.ifCond .eq 49, 3) := by decide +kernel
theorem dX0_makeRounds_9 : decode cX0_makeRounds 9 = .ok (.iload 4, 2) := by decide +kernel
theorem dX0_makeRounds_11 : decode cX0_makeRounds 11 = .ok (.ldc 31, 2) := by decide +kernel
theorem dX0_makeRounds_13 : decode cX0_makeRounds 13 = .ok (.if_icmp .ge 42, 3) := by decide +kernel
theorem dX0_makeRounds_16 : decode cX0_makeRounds 16 = .ok (.iinc 4 1, 3) := by decide +kernel
theorem dX0_makeRounds_19 : decode cX0_makeRounds 19 = .ok (.iconst 0, 1) := by decide +kernel
theorem dX0_makeRounds_20 : decode cX0_makeRounds 20 = .ok (.istore_n 3, 1) := by decide +kernel
theorem dX0_makeRounds_21 : decode cX0_makeRounds 21 = .ok (.iconst 0, 1) := by decide +kernel
theorem dX0_makeRounds_22 : decode cX0_makeRounds 22 = .ok (.istore 5, 2) := by decide +kernel
theorem dX0_makeRounds_24 : decode cX0_makeRounds 24 = .ok (.iload 5, 2) := by decide +kernel
theorem dX0_makeRounds_26 : decode cX0_makeRounds 26 = .ok (.aload_n 1, 1) := by decide +kernel
theorem dX0_makeRounds_27 : decode cX0_makeRounds 27 = .ok (.getfield 32, 3) := by decide +kernel
theorem dX0_makeRounds_30 : decode cX0_makeRounds 30 = .ok (.if_icmp .ge 22, 3) := by decide +kernel
theorem dX0_makeRounds_33 : decode cX0_makeRounds 33 = .ok (.aload_n 0, 1) := by decide +kernel
theorem dX0_makeRounds_34 : decode cX0_makeRounds 34 = .ok (.aload_n 1, 1) := by decide +kernel
theorem dX0_makeRounds_35 : decode cX0_makeRounds 35 = .ok (.aload_n 2, 1) := by decide +kernel
theorem dX0_makeRounds_36 : decode cX0_makeRounds 36 = .ok (.iload 5, 2) := by decide +kernel
theorem dX0_makeRounds_38 : decode cX0_makeRounds 38 = .ok (.invokevirtual 38, 3) := by decide +kernel
theorem dX0_makeRounds_41 : decode cX0_makeRounds 41 = .ok (.ifCond .eq 5, 3) := by decide +kernel
theorem dX0_makeRounds_44 : decode cX0_makeRounds 44 = .ok (.iconst 1, 1) := by decide +kernel
theorem dX0_makeRounds_45 : decode cX0_makeRounds 45 = .ok (.istore_n 3, 1) := by decide +kernel
theorem dX0_makeRounds_46 : decode cX0_makeRounds 46 = .ok (.iinc 5 1, 3) := by decide +kernel
theorem dX0_makeRounds_49 : decode cX0_makeRounds 49 = .ok (.goto (-25), 3) := by decide +kernel
theorem dX0_makeRounds_52 : decode cX0_makeRounds 52 = .ok (.goto (-47), 3) := by decide +kernel
theorem dX0_makeRounds_55 : decode cX0_makeRounds 55 = .ok (.iload 4, 2) := by decide +kernel
theorem dX0_makeRounds_57 : decode cX0_makeRounds 57 = .ok (.ireturn, 1) := by decide +kernel
set_option maxRecDepth 20000 in
theorem ggX0_makeNarrowings_X0_narrow : GoodIn wsX0_makeNarrowings wsX0_narrow := goodIn_r _ [6, 7, 8, 9, 10, 11, 12, 13, 14, 5, 15, 16, 1, 17, 18, 19, 20, 21, 22, 23, 24, 25, 26, 27, 28, 29, 30, 31, 32, 33, 34, 35, 36, 37, 38, 39, 40, 41, 42, 43, 44, 45, 46, 47, 48, 49, 50, 51, 52, 53, 54, 55, 56, 57, 58, 59, 60, 61, 62, 63, 64, 65, 66, 67, 68, 69, 70, 71, 72, 73, 74, 75, 76, 77, 78, 79, 80, 81, 82, 83, 84, 85, 86, 87, 88, 89, 90, 91, 92, 93, 94, 95, 96, 97, 98, 99, 100, 101, 102, 103, 104, 105, 106, 107, 108, 109, 110, 111, 112, 113, 114, 115, 116, 117, 118, 119, 120, 121, 122, 123, 124, 125, 126, 127, 128, 132, 133, 134, 135, 136, 137, 138, 139, 140, 141, 129, 130, 131, 142, 143, 144, 145, 146, 147, 148, 149, 150, 151] (by decide +kernel) (by decide +kernel)
set_option maxRecDepth 20000 in
theorem gX0_makeNarrowings_X0_narrow : GoodIn wsX0_makeNarrowings (wsV RX0 42 RX0 yX0_narrow wsX0_narrow) := goodIn_app (goodIn_of _ (by decide +kernel)) ggX0_makeNarrowings_X0_narrow
theorem dX0_makeNarrowings_0 : decode cX0_makeNarrowings 0 = .ok (.iconst 0, 1) := by decide +kernel
theorem dX0_makeNarrowings_1 : decode cX0_makeNarrowings 1 = .ok (.istore_n 3, 1) := by decide +kernel
theorem dX0_makeNarrowings_2 : decode cX0_makeNarrowings 2 = .ok (.iload_n 3, 1) := by decide +kernel
theorem dX0_makeNarrowings_3 : decode cX0_makeNarrowings 3 = .ok (.iload_n 2, 1) := by decide +kernel
theorem dX0_makeNarrowings_4 : decode cX0_makeNarrowings 4 = .ok (.if_icmp .ge 34, 3) := by decide +kernel
theorem dX0_makeNarrowings_7 : decode cX0_makeNarrowings 7 = .ok (.iconst 0, 1) := by decide +kernel
theorem dX0_makeNarrowings_8 : decode cX0_makeNarrowings 8 = .ok (.istore 4, 2) := by decide +kernel
theorem dX0_makeNarrowings_10 : decode cX0_makeNarrowings 10 = .ok (.iload 4, 2) := by decide +kernel
theorem dX0_makeNarrowings_12 : decode cX0_makeNarrowings 12 = .ok (.aload_n 1, 1) := by decide +kernel
theorem dX0_makeNarrowings_13 : decode cX0_makeNarrowings 13 = .ok (.getfield 32, 3) := by decide +kernel
theorem dX0_makeNarrowings_16 : decode cX0_makeNarrowings 16 = .ok (.if_icmp .ge 16, 3) := by decide +kernel
theorem dX0_makeNarrowings_19 : decode cX0_makeNarrowings 19 = .ok (.aload_n 0, 1) := by decide +kernel
theorem dX0_makeNarrowings_20 : decode cX0_makeNarrowings 20 = .ok (.aload_n 1, 1) := by decide +kernel
theorem dX0_makeNarrowings_21 : decode cX0_makeNarrowings 21 = .ok (.iload 4, 2) := by decide +kernel
theorem dX0_makeNarrowings_23 : decode cX0_makeNarrowings 23 = .ok (.invokevirtual 42, 3) := by decide +kernel
theorem dX0_makeNarrowings_26 : decode cX0_makeNarrowings 26 = .ok (.iinc 4 1, 3) := by decide +kernel
theorem dX0_makeNarrowings_29 : decode cX0_makeNarrowings 29 = .ok (.goto (-19), 3) := by decide +kernel
theorem dX0_makeNarrowings_32 : decode cX0_makeNarrowings 32 = .ok (.iinc 3 1, 3) := by decide +kernel
theorem dX0_makeNarrowings_35 : decode cX0_makeNarrowings 35 = .ok (.goto (-33), 3) := by decide +kernel
theorem dX0_makeNarrowings_38 : decode cX0_makeNarrowings 38 = .ok (.return_, 1) := by decide +kernel
set_option maxRecDepth 20000 in
theorem ggX0_lookAt_X0_gatherIncoming : GoodIn wsX0_lookAt wsX0_gatherIncoming := goodIn_r _ [13, 1, 2, 14, 15, 8, 16, 17, 3, 18, 19, 20, 21, 22, 23, 24, 25, 26, 27, 28, 29, 30, 31, 32, 33, 34, 35, 36, 37, 38, 39, 40, 41, 148, 149, 150, 151, 152, 153, 162, 163, 164, 165, 166, 167, 168, 169, 170, 171, 172, 173, 174, 154, 155, 156, 157] (by decide +kernel) (by decide +kernel)
set_option maxRecDepth 20000 in
theorem gX0_lookAt_X0_gatherIncoming : GoodIn wsX0_lookAt (wsV RX0 46 RX0 yX0_gatherIncoming wsX0_gatherIncoming) := goodIn_app (goodIn_of _ (by decide +kernel)) ggX0_lookAt_X0_gatherIncoming
set_option maxRecDepth 20000 in
theorem ggX0_lookAt_X7_become : GoodIn wsX0_lookAt wsX7_become := goodIn_r _ [37, 24, 25, 38, 39, 40, 41, 30, 151, 152, 153] (by decide +kernel) (by decide +kernel)
set_option maxRecDepth 20000 in
theorem gX0_lookAt_X7_become : GoodIn wsX0_lookAt (wsV RX0 56 RX7 yX7_become wsX7_become) := goodIn_app (goodIn_of _ (by decide +kernel)) ggX0_lookAt_X7_become
set_option maxRecDepth 20000 in
theorem ggX0_lookAt_X7_join : GoodIn wsX0_lookAt wsX7_join := goodIn_r _ [23, 24, 25, 26, 27, 28, 29, 30, 31, 32, 33, 34, 35, 36, 22, 37, 38, 39, 40, 41, 151, 152, 153] (by decide +kernel) (by decide +kernel)
set_option maxRecDepth 20000 in
theorem gX0_lookAt_X7_join : GoodIn wsX0_lookAt (wsV RX0 60 RX7 yX7_join wsX7_join) := goodIn_app (goodIn_of _ (by decide +kernel)) ggX0_lookAt_X7_join
set_option maxRecDepth 20000 in
theorem ggX0_lookAt_X6_widen : GoodIn wsX0_lookAt wsX6_widen := goodIn_r _ [47, 48, 49, 50, 51, 52, 46, 53, 54, 55, 56, 57, 58, 59, 60, 61, 151, 152, 153, 158, 159, 160, 161] (by decide +kernel) (by decide +kernel)
set_option maxRecDepth 20000 in
theorem gX0_lookAt_X6_widen : GoodIn wsX0_lookAt (wsV RX0 71 RX6 yX6_widen wsX6_widen) := goodIn_app (goodIn_of _ (by decide +kernel)) ggX0_lookAt_X6_widen
set_option maxRecDepth 20000 in
theorem ggX0_lookAt_X7_differsFrom : GoodIn wsX0_lookAt wsX7_differsFrom := goodIn_r _ [65, 24, 25, 30, 151, 152, 153] (by decide +kernel) (by decide +kernel)
set_option maxRecDepth 20000 in
theorem gX0_lookAt_X7_differsFrom : GoodIn wsX0_lookAt (wsV RX0 75 RX7 yX7_differsFrom wsX7_differsFrom) := goodIn_app (goodIn_of _ (by decide +kernel)) ggX0_lookAt_X7_differsFrom
set_option maxRecDepth 20000 in
theorem ggX0_lookAt_X4_makeAnew : GoodIn wsX0_lookAt wsX4_makeAnew := goodIn_r _ [70, 71, 72, 73, 74, 75, 35, 36, 22, 37, 24, 25, 38, 39, 40, 41, 30, 76, 77, 78, 79, 80, 81, 82, 83, 84, 85, 86, 87, 88, 89, 90, 91, 92, 93, 94, 26, 27, 28, 29, 31, 32, 33, 95, 96, 97, 98, 99, 100, 101, 102, 103, 104, 105, 106, 107, 108, 109, 110, 111, 112, 113, 114, 115, 116, 117, 118, 119, 120, 121, 122, 123, 124, 125, 126, 127, 128, 129, 130, 131, 132, 133, 134, 135, 136, 137, 138, 139, 140, 141, 142, 143, 144, 145, 146, 147, 154, 155, 156, 157, 165, 166, 167, 168, 169, 170, 171, 172, 173, 174, 151, 152, 153] (by decide +kernel) (by decide +kernel)
set_option maxRecDepth 20000 in
theorem gX0_lookAt_X4_makeAnew : GoodIn wsX0_lookAt (wsV RX0 83 RX4 yX4_makeAnew wsX4_makeAnew) := goodIn_app (goodIn_of _ (by decide +kernel)) ggX0_lookAt_X4_makeAnew
theorem dX0_lookAt_0 : decode cX0_lookAt 0 = .ok (.aload_n 0, 1) := by decide +kernel
theorem dX0_lookAt_1 : decode cX0_lookAt 1 = .ok (.aload_n 1, 1) := by decide +kernel
theorem dX0_lookAt_2 : decode cX0_lookAt 2 = .ok (.iload_n 3, 1) := by decide +kernel
theorem dX0_lookAt_3 : decode cX0_lookAt 3 = .ok (.invokevirtual 46, 3) := by decide +kernel
theorem dX0_lookAt_6 : decode cX0_lookAt 6 = .ok (.aload_n 0, 1) := by decide +kernel
theorem dX0_lookAt_7 : decode cX0_lookAt 7 = .ok (.getfield 20, 3) := by decide +kernel
theorem dX0_lookAt_10 : decode cX0_lookAt 10 = .ok (.getfield 49, 3) := by decide +kernel
theorem dX0_lookAt_13 : decode cX0_lookAt 13 = .ok (.ifCond .eq 5, 3) := by decide +kernel
theorem dX0_lookAt_16 : decode cX0_lookAt 16 = .ok (.iconst 0, 1) := by decide +kernel
theorem dX0_lookAt_17 : decode cX0_lookAt 17 = .ok (.ireturn, 1) := by decide +kernel
theorem dX0_lookAt_18 : decode cX0_lookAt 18 = .ok (.aload_n 0, 1) := by decide +kernel
theorem dX0_lookAt_19 : decode cX0_lookAt 19 = .ok (.getfield 11, 3) := by decide +kernel
theorem dX0_lookAt_22 : decode cX0_lookAt 22 = .ok (.iload_n 3, 1) := by decide +kernel
theorem dX0_lookAt_23 : decode cX0_lookAt 23 = .ok (.aaload, 1) := by decide +kernel
theorem dX0_lookAt_24 : decode cX0_lookAt 24 = .ok (.astore 4, 2) := by decide +kernel
theorem dX0_lookAt_26 : decode cX0_lookAt 26 = .ok (.aload_n 0, 1) := by decide +kernel
theorem dX0_lookAt_27 : decode cX0_lookAt 27 = .ok (.getfield 24, 3) := by decide +kernel
theorem dX0_lookAt_30 : decode cX0_lookAt 30 = .ok (.aload 4, 2) := by decide +kernel
theorem dX0_lookAt_32 : decode cX0_lookAt 32 = .ok (.getfield 53, 3) := by decide +kernel
theorem dX0_lookAt_35 : decode cX0_lookAt 35 = .ok (.invokevirtual 56, 3) := by decide +kernel
theorem dX0_lookAt_38 : decode cX0_lookAt 38 = .ok (.aload_n 0, 1) := by decide +kernel
theorem dX0_lookAt_39 : decode cX0_lookAt 39 = .ok (.getfield 24, 3) := by decide +kernel
theorem dX0_lookAt_42 : decode cX0_lookAt 42 = .ok (.aload_n 0, 1) := by decide +kernel
theorem dX0_lookAt_43 : decode cX0_lookAt 43 = .ok (.getfield 20, 3) := by decide +kernel
theorem dX0_lookAt_46 : decode cX0_lookAt 46 = .ok (.invokevirtual 60, 3) := by decide +kernel
theorem dX0_lookAt_49 : decode cX0_lookAt 49 = .ok (.aload 4, 2) := by decide +kernel
theorem dX0_lookAt_51 : decode cX0_lookAt 51 = .ok (.getfield 53, 3) := by decide +kernel
theorem dX0_lookAt_54 : decode cX0_lookAt 54 = .ok (.getfield 49, 3) := by decide +kernel
theorem dX0_lookAt_57 : decode cX0_lookAt 57 = .ok (.ifCond .ne 28, 3) := by decide +kernel
theorem dX0_lookAt_60 : decode cX0_lookAt 60 = .ok (.aload 4, 2) := by decide +kernel
theorem dX0_lookAt_62 : decode cX0_lookAt 62 = .ok (.getfield 63, 3) := by decide +kernel
theorem dX0_lookAt_65 : decode cX0_lookAt 65 = .ok (.aload_n 2, 1) := by decide +kernel
theorem dX0_lookAt_66 : decode cX0_lookAt 66 = .ok (.getfield 66, 3) := by decide +kernel
theorem dX0_lookAt_69 : decode cX0_lookAt 69 = .ok (.if_icmp .lt 16, 3) := by decide +kernel
theorem dX0_lookAt_72 : decode cX0_lookAt 72 = .ok (.aload_n 2, 1) := by decide +kernel
theorem dX0_lookAt_73 : decode cX0_lookAt 73 = .ok (.aload_n 0, 1) := by decide +kernel
theorem dX0_lookAt_74 : decode cX0_lookAt 74 = .ok (.getfield 24, 3) := by decide +kernel
theorem dX0_lookAt_77 : decode cX0_lookAt 77 = .ok (.aload 4, 2) := by decide +kernel
theorem dX0_lookAt_79 : decode cX0_lookAt 79 = .ok (.getfield 53, 3) := by decide +kernel
theorem dX0_lookAt_82 : decode cX0_lookAt 82 = .ok (.invokevirtual 71, 3) := by decide +kernel
theorem dX0_lookAt_85 : decode cX0_lookAt 85 = .ok (.aload_n 0, 1) := by decide +kernel
theorem dX0_lookAt_86 : decode cX0_lookAt 86 = .ok (.getfield 24, 3) := by decide +kernel
theorem dX0_lookAt_89 : decode cX0_lookAt 89 = .ok (.aload 4, 2) := by decide +kernel
theorem dX0_lookAt_91 : decode cX0_lookAt 91 = .ok (.getfield 53, 3) := by decide +kernel
theorem dX0_lookAt_94 : decode cX0_lookAt 94 = .ok (.invokevirtual 75, 3) := by decide +kernel
theorem dX0_lookAt_97 : decode cX0_lookAt 97 = .ok (.ifCond .ne 5, 3) := by decide +kernel
theorem dX0_lookAt_100 : decode cX0_lookAt 100 = .ok (.iconst 0, 1) := by decide +kernel
theorem dX0_lookAt_101 : decode cX0_lookAt 101 = .ok (.ireturn, 1) := by decide +kernel
theorem dX0_lookAt_102 : decode cX0_lookAt 102 = .ok (.aload 4, 2) := by decide +kernel
theorem dX0_lookAt_104 : decode cX0_lookAt 104 = .ok (.getfield 53, 3) := by decide +kernel
theorem dX0_lookAt_107 : decode cX0_lookAt 107 = .ok (.aload_n 0, 1) := by decide +kernel
theorem dX0_lookAt_108 : decode cX0_lookAt 108 = .ok (.getfield 24, 3) := by decide +kernel
theorem dX0_lookAt_111 : decode cX0_lookAt 111 = .ok (.invokevirtual 56, 3) := by decide +kernel
theorem dX0_lookAt_114 : decode cX0_lookAt 114 = .ok (.aload 4, 2) := by decide +kernel
theorem dX0_lookAt_116 : decode cX0_lookAt 116 = .ok (.dup, 1) := by decide +kernel
theorem dX0_lookAt_117 : decode cX0_lookAt 117 = .ok (.getfield 63, 3) := by decide +kernel
theorem dX0_lookAt_120 : decode cX0_lookAt 120 = .ok (.iconst 1, 1) := by decide +kernel
theorem dX0_lookAt_121 : decode cX0_lookAt 121 = .ok (.iadd, 1) := by decide +kernel
theorem dX0_lookAt_122 : decode cX0_lookAt 122 = .ok (.putfield 63, 3) := by decide +kernel
theorem dX0_lookAt_125 : decode cX0_lookAt 125 = .ok (.aload 4, 2) := by decide +kernel
theorem dX0_lookAt_127 : decode cX0_lookAt 127 = .ok (.aload_n 1, 1) := by decide +kernel
theorem dX0_lookAt_128 : decode cX0_lookAt 128 = .ok (.getfield 79, 3) := by decide +kernel
theorem dX0_lookAt_131 : decode cX0_lookAt 131 = .ok (.iload_n 3, 1) := by decide +kernel
theorem dX0_lookAt_132 : decode cX0_lookAt 132 = .ok (.aaload, 1) := by decide +kernel
theorem dX0_lookAt_133 : decode cX0_lookAt 133 = .ok (.invokevirtual 83, 3) := by decide +kernel
theorem dX0_lookAt_136 : decode cX0_lookAt 136 = .ok (.iconst 1, 1) := by decide +kernel
theorem dX0_lookAt_137 : decode cX0_lookAt 137 = .ok (.ireturn, 1) := by decide +kernel
set_option maxRecDepth 20000 in
theorem ggX0_narrow_X0_gatherIncoming : GoodIn wsX0_narrow wsX0_gatherIncoming := goodIn_r _ [10, 4, 3, 11, 12, 5, 13, 14, 1, 15, 16, 17, 18, 19, 20, 21, 22, 23, 24, 25, 26, 27, 28, 29, 30, 31, 32, 33, 34, 35, 36, 37, 38, 125, 126, 127, 132, 133, 134, 135, 136, 137, 138, 139, 140, 141, 142, 143, 144, 145, 146, 147, 128, 129, 130, 131] (by decide +kernel) (by decide +kernel)
set_option maxRecDepth 20000 in
theorem gX0_narrow_X0_gatherIncoming : GoodIn wsX0_narrow (wsV RX0 46 RX0 yX0_gatherIncoming wsX0_gatherIncoming) := goodIn_app (goodIn_of _ (by decide +kernel)) ggX0_narrow_X0_gatherIncoming
set_option maxRecDepth 20000 in
theorem ggX0_narrow_X7_narrowTo : GoodIn wsX0_narrow wsX7_narrowTo := goodIn_r _ [42, 21, 22, 28, 29, 25, 30, 27, 23, 24, 26, 132, 133, 134] (by decide +kernel) (by decide +kernel)
set_option maxRecDepth 20000 in
theorem gX0_narrow_X7_narrowTo : GoodIn wsX0_narrow (wsV RX0 87 RX7 yX7_narrowTo wsX7_narrowTo) := goodIn_app (goodIn_of _ (by decide +kernel)) ggX0_narrow_X7_narrowTo
set_option maxRecDepth 20000 in
theorem ggX0_narrow_X4_makeAnew : GoodIn wsX0_narrow wsX4_makeAnew := goodIn_r _ [47, 48, 49, 50, 51, 52, 32, 33, 19, 34, 21, 22, 35, 36, 37, 38, 27, 53, 54, 55, 56, 57, 58, 59, 60, 61, 62, 63, 64, 65, 66, 67, 68, 69, 70, 71, 23, 24, 25, 26, 28, 29, 30, 72, 73, 74, 75, 76, 77, 78, 79, 80, 81, 82, 83, 84, 85, 86, 87, 88, 89, 90, 91, 92, 93, 94, 95, 96, 97, 98, 99, 100, 101, 102, 103, 104, 105, 106, 107, 108, 109, 110, 111, 112, 113, 114, 115, 116, 117, 118, 119, 120, 121, 122, 123, 124, 128, 129, 130, 131, 138, 139, 140, 141, 142, 143, 144, 145, 146, 147, 132, 133, 134] (by decide +kernel) (by decide +kernel)
set_option maxRecDepth 20000 in
theorem gX0_narrow_X4_makeAnew : GoodIn wsX0_narrow (wsV RX0 83 RX4 yX4_makeAnew wsX4_makeAnew) := goodIn_app (goodIn_of _ (by decide +kernel)) ggX0_narrow_X4_makeAnew
theorem dX0_narrow_0 : decode cX0_narrow 0 = .ok (.aload_n 0, 1) := by decide +kernel
theorem dX0_narrow_1 : decode cX0_narrow 1 = .ok (.getfield 11, 3) := by decide +kernel
theorem dX0_narrow_4 : decode cX0_narrow 4 = .ok (.iload_n 2, 1) := by decide +kernel
theorem dX0_narrow_5 : decode cX0_narrow 5 = .ok (.aaload, 1) := by decide +kernel
theorem dX0_narrow_6 : decode cX0_narrow 6 = .ok (.astore_n 3, 1) := by decide +kernel
theorem dX0_narrow_7 : decode cX0_narrow 7 = .ok (.aload_n 3, 1) := by decide +kernel
theorem dX0_narrow_8 : decode cX0_narrow 8 = .ok (.getfield 53, 3) := by decide +kernel
theorem dX0_narrow_11 : decode cX0_narrow 11 = .ok (.getfield 49, 3) := by decide +kernel
theorem dX0_narrow_14 : decode cX0_narrow 14 = .ok (.ifCond .eq 4, 3) := by decide +kernel
theorem dX0_narrow_17 : decode cX0_narrow 17 = .ok (.return_, 1) := by decide +kernel
theorem dX0_narrow_18 : decode cX0_narrow 18 = .ok (.aload_n 0, 1) := by decide +kernel
theorem dX0_narrow_19 : decode cX0_narrow 19 = .ok (.aload_n 1, 1) := by decide +kernel
theorem dX0_narrow_20 : decode cX0_narrow 20 = .ok (.iload_n 2, 1) := by decide +kernel
theorem dX0_narrow_21 : decode cX0_narrow 21 = .ok (.invokevirtual 46, 3) := by decide +kernel
theorem dX0_narrow_24 : decode cX0_narrow 24 = .ok (.aload_n 3, 1) := by decide +kernel
theorem dX0_narrow_25 : decode cX0_narrow 25 = .ok (.getfield 53, 3) := by decide +kernel
theorem dX0_narrow_28 : decode cX0_narrow 28 = .ok (.aload_n 0, 1) := by decide +kernel
theorem dX0_narrow_29 : decode cX0_narrow 29 = .ok (.getfield 20, 3) := by decide +kernel
theorem dX0_narrow_32 : decode cX0_narrow 32 = .ok (.invokevirtual 87, 3) := by decide +kernel
theorem dX0_narrow_35 : decode cX0_narrow 35 = .ok (.aload_n 3, 1) := by decide +kernel
theorem dX0_narrow_36 : decode cX0_narrow 36 = .ok (.aload_n 1, 1) := by decide +kernel
theorem dX0_narrow_37 : decode cX0_narrow 37 = .ok (.getfield 79, 3) := by decide +kernel
theorem dX0_narrow_40 : decode cX0_narrow 40 = .ok (.iload_n 2, 1) := by decide +kernel
theorem dX0_narrow_41 : decode cX0_narrow 41 = .ok (.aaload, 1) := by decide +kernel
theorem dX0_narrow_42 : decode cX0_narrow 42 = .ok (.invokevirtual 83, 3) := by decide +kernel
theorem dX0_narrow_45 : decode cX0_narrow 45 = .ok (.return_, 1) := by decide +kernel
set_option maxRecDepth 20000 in
theorem ggX0_gatherIncoming_X7_join : GoodIn wsX0_gatherIncoming wsX7_join := goodIn_r _ [14, 15, 16, 17, 18, 19, 20, 21, 22, 23, 24, 25, 26, 27, 13, 28, 29, 30, 31, 32, 36, 37, 38] (by decide +kernel) (by decide +kernel)
set_option maxRecDepth 20000 in
theorem gX0_gatherIncoming_X7_join : GoodIn wsX0_gatherIncoming (wsV RX0 60 RX7 yX7_join wsX7_join) := goodIn_app (goodIn_of _ (by decide +kernel)) ggX0_gatherIncoming_X7_join
theorem dX0_gatherIncoming_0 : decode cX0_gatherIncoming 0 = .ok (.aload_n 0, 1) := by decide +kernel
theorem dX0_gatherIncoming_1 : decode cX0_gatherIncoming 1 = .ok (.getfield 20, 3) := by decide +kernel
theorem dX0_gatherIncoming_4 : decode cX0_gatherIncoming 4 = .ok (.iconst 1, 1) := by decide +kernel
theorem dX0_gatherIncoming_5 : decode cX0_gatherIncoming 5 = .ok (.putfield 49, 3) := by decide +kernel
theorem dX0_gatherIncoming_8 : decode cX0_gatherIncoming 8 = .ok (.iload_n 2, 1) := by decide +kernel
theorem dX0_gatherIncoming_9 : decode cX0_gatherIncoming 9 = .ok (.ifCond .ne 14, 3) := by decide +kernel
theorem dX0_gatherIncoming_12 : decode cX0_gatherIncoming 12 = .ok (.aload_n 0, 1) := by decide +kernel
theorem dX0_gatherIncoming_13 : decode cX0_gatherIncoming 13 = .ok (.getfield 20, 3) := by decide +kernel
theorem dX0_gatherIncoming_16 : decode cX0_gatherIncoming 16 = .ok (.aload_n 1, 1) := by decide +kernel
theorem dX0_gatherIncoming_17 : decode cX0_gatherIncoming 17 = .ok (.getfield 90, 3) := by decide +kernel
theorem dX0_gatherIncoming_20 : decode cX0_gatherIncoming 20 = .ok (.invokevirtual 60, 3) := by decide +kernel
theorem dX0_gatherIncoming_23 : decode cX0_gatherIncoming 23 = .ok (.iconst 0, 1) := by decide +kernel
theorem dX0_gatherIncoming_24 : decode cX0_gatherIncoming 24 = .ok (.istore_n 3, 1) := by decide +kernel
theorem dX0_gatherIncoming_25 : decode cX0_gatherIncoming 25 = .ok (.iload_n 3, 1) := by decide +kernel
theorem dX0_gatherIncoming_26 : decode cX0_gatherIncoming 26 = .ok (.aload_n 1, 1) := by decide +kernel
theorem dX0_gatherIncoming_27 : decode cX0_gatherIncoming 27 = .ok (.getfield 32, 3) := by decide +kernel
theorem dX0_gatherIncoming_30 : decode cX0_gatherIncoming 30 = .ok (.if_icmp .ge 67, 3) := by decide +kernel
theorem dX0_gatherIncoming_33 : decode cX0_gatherIncoming 33 = .ok (.aload_n 1, 1) := by decide +kernel
theorem dX0_gatherIncoming_34 : decode cX0_gatherIncoming 34 = .ok (.getfield 79, 3) := by decide +kernel
theorem dX0_gatherIncoming_37 : decode cX0_gatherIncoming 37 = .ok (.iload_n 3, 1) := by decide +kernel
theorem dX0_gatherIncoming_38 : decode cX0_gatherIncoming 38 = .ok (.aaload, 1) := by decide +kernel
theorem dX0_gatherIncoming_39 : decode cX0_gatherIncoming 39 = .ok (.astore 4, 2) := by decide +kernel
theorem dX0_gatherIncoming_41 : decode cX0_gatherIncoming 41 = .ok (.iconst 0, 1) := by decide +kernel
theorem dX0_gatherIncoming_42 : decode cX0_gatherIncoming 42 = .ok (.istore 5, 2) := by decide +kernel
theorem dX0_gatherIncoming_44 : decode cX0_gatherIncoming 44 = .ok (.iload 5, 2) := by decide +kernel
theorem dX0_gatherIncoming_46 : decode cX0_gatherIncoming 46 = .ok (.aload 4, 2) := by decide +kernel
theorem dX0_gatherIncoming_48 : decode cX0_gatherIncoming 48 = .ok (.getfield 93, 3) := by decide +kernel
theorem dX0_gatherIncoming_51 : decode cX0_gatherIncoming 51 = .ok (.if_icmp .ge 40, 3) := by decide +kernel
theorem dX0_gatherIncoming_54 : decode cX0_gatherIncoming 54 = .ok (.aload 4, 2) := by decide +kernel
theorem dX0_gatherIncoming_56 : decode cX0_gatherIncoming 56 = .ok (.getfield 98, 3) := by decide +kernel
theorem dX0_gatherIncoming_59 : decode cX0_gatherIncoming 59 = .ok (.iload 5, 2) := by decide +kernel
theorem dX0_gatherIncoming_61 : decode cX0_gatherIncoming 61 = .ok (.iaload, 1) := by decide +kernel
theorem dX0_gatherIncoming_62 : decode cX0_gatherIncoming 62 = .ok (.iload_n 2, 1) := by decide +kernel
theorem dX0_gatherIncoming_63 : decode cX0_gatherIncoming 63 = .ok (.if_icmp .ne 22, 3) := by decide +kernel
theorem dX0_gatherIncoming_66 : decode cX0_gatherIncoming 66 = .ok (.aload_n 0, 1) := by decide +kernel
theorem dX0_gatherIncoming_67 : decode cX0_gatherIncoming 67 = .ok (.getfield 20, 3) := by decide +kernel
theorem dX0_gatherIncoming_70 : decode cX0_gatherIncoming 70 = .ok (.aload_n 0, 1) := by decide +kernel
theorem dX0_gatherIncoming_71 : decode cX0_gatherIncoming 71 = .ok (.getfield 11, 3) := by decide +kernel
theorem dX0_gatherIncoming_74 : decode cX0_gatherIncoming 74 = .ok (.iload_n 3, 1) := by decide +kernel
theorem dX0_gatherIncoming_75 : decode cX0_gatherIncoming 75 = .ok (.aaload, 1) := by decide +kernel
theorem dX0_gatherIncoming_76 : decode cX0_gatherIncoming 76 = .ok (.getfield 102, 3) := by decide +kernel
theorem dX0_gatherIncoming_79 : decode cX0_gatherIncoming 79 = .ok (.iload 5, 2) := by decide +kernel
theorem dX0_gatherIncoming_81 : decode cX0_gatherIncoming 81 = .ok (.aaload, 1) := by decide +kernel
theorem dX0_gatherIncoming_82 : decode cX0_gatherIncoming 82 = .ok (.invokevirtual 60, 3) := by decide +kernel
theorem dX0_gatherIncoming_85 : decode cX0_gatherIncoming 85 = .ok (.iinc 5 1, 3) := by decide +kernel
theorem dX0_gatherIncoming_88 : decode cX0_gatherIncoming 88 = .ok (.goto (-44), 3) := by decide +kernel
theorem dX0_gatherIncoming_91 : decode cX0_gatherIncoming 91 = .ok (.iinc 3 1, 3) := by decide +kernel
theorem dX0_gatherIncoming_94 : decode cX0_gatherIncoming 94 = .ok (.goto (-69), 3) := by decide +kernel
theorem dX0_gatherIncoming_97 : decode cX0_gatherIncoming 97 = .ok (.return_, 1) := by decide +kernel
theorem dX1_outcome_0 : decode cX1_outcome 0 = .ok (.iload_n 0, 1) := by decide +kernel
theorem dX1_outcome_1 : decode cX1_outcome 1 = .ok (.tableswitch 82 1 5 #[35, 44, 53, 62, 72], 35) := by decide +kernel
theorem dX1_outcome_36 : decode cX1_outcome 36 = .ok (.iload_n 1, 1) := by decide +kernel
theorem dX1_outcome_37 : decode cX1_outcome 37 = .ok (.i2l, 1) := by decide +kernel
theorem dX1_outcome_38 : decode cX1_outcome 38 = .ok (.iload_n 2, 1) := by decide +kernel
theorem dX1_outcome_39 : decode cX1_outcome 39 = .ok (.i2l, 1) := by decide +kernel
theorem dX1_outcome_40 : decode cX1_outcome 40 = .ok (.ladd, 1) := by decide +kernel
theorem dX1_outcome_41 : decode cX1_outcome 41 = .ok (.lstore_n 3, 1) := by decide +kernel
theorem dX1_outcome_42 : decode cX1_outcome 42 = .ok (.goto 44, 3) := by decide +kernel
theorem dX1_outcome_45 : decode cX1_outcome 45 = .ok (.iload_n 1, 1) := by decide +kernel
theorem dX1_outcome_46 : decode cX1_outcome 46 = .ok (.i2l, 1) := by decide +kernel
theorem dX1_outcome_47 : decode cX1_outcome 47 = .ok (.iload_n 2, 1) := by decide +kernel
theorem dX1_outcome_48 : decode cX1_outcome 48 = .ok (.i2l, 1) := by decide +kernel
theorem dX1_outcome_49 : decode cX1_outcome 49 = .ok (.lsub, 1) := by decide +kernel
theorem dX1_outcome_50 : decode cX1_outcome 50 = .ok (.lstore_n 3, 1) := by decide +kernel
theorem dX1_outcome_51 : decode cX1_outcome 51 = .ok (.goto 35, 3) := by decide +kernel
theorem dX1_outcome_54 : decode cX1_outcome 54 = .ok (.iload_n 1, 1) := by decide +kernel
theorem dX1_outcome_55 : decode cX1_outcome 55 = .ok (.i2l, 1) := by decide +kernel
theorem dX1_outcome_56 : decode cX1_outcome 56 = .ok (.iload_n 2, 1) := by decide +kernel
theorem dX1_outcome_57 : decode cX1_outcome 57 = .ok (.i2l, 1) := by decide +kernel
theorem dX1_outcome_58 : decode cX1_outcome 58 = .ok (.lmul, 1) := by decide +kernel
theorem dX1_outcome_59 : decode cX1_outcome 59 = .ok (.lstore_n 3, 1) := by decide +kernel
theorem dX1_outcome_60 : decode cX1_outcome 60 = .ok (.goto 26, 3) := by decide +kernel
theorem dX1_outcome_63 : decode cX1_outcome 63 = .ok (.iload_n 1, 1) := by decide +kernel
theorem dX1_outcome_64 : decode cX1_outcome 64 = .ok (.iload_n 2, 1) := by decide +kernel
theorem dX1_outcome_65 : decode cX1_outcome 65 = .ok (.invokestatic 9, 3) := by decide +kernel
theorem dX1_outcome_68 : decode cX1_outcome 68 = .ok (.i2l, 1) := by decide +kernel
theorem dX1_outcome_69 : decode cX1_outcome 69 = .ok (.lstore_n 3, 1) := by decide +kernel
theorem dX1_outcome_70 : decode cX1_outcome 70 = .ok (.goto 16, 3) := by decide +kernel
theorem dX1_outcome_73 : decode cX1_outcome 73 = .ok (.iload_n 1, 1) := by decide +kernel
theorem dX1_outcome_74 : decode cX1_outcome 74 = .ok (.iload_n 2, 1) := by decide +kernel
theorem dX1_outcome_75 : decode cX1_outcome 75 = .ok (.invokestatic 15, 3) := by decide +kernel
theorem dX1_outcome_78 : decode cX1_outcome 78 = .ok (.i2l, 1) := by decide +kernel
theorem dX1_outcome_79 : decode cX1_outcome 79 = .ok (.lstore_n 3, 1) := by decide +kernel
theorem dX1_outcome_80 : decode cX1_outcome 80 = .ok (.goto 6, 3) := by decide +kernel
theorem dX1_outcome_83 : decode cX1_outcome 83 = .ok (.iload_n 1, 1) := by decide +kernel
theorem dX1_outcome_84 : decode cX1_outcome 84 = .ok (.i2l, 1) := by decide +kernel
theorem dX1_outcome_85 : decode cX1_outcome 85 = .ok (.lstore_n 3, 1) := by decide +kernel
theorem dX1_outcome_86 : decode cX1_outcome 86 = .ok (.ldc2_w 18, 3) := by decide +kernel
theorem dX1_outcome_89 : decode cX1_outcome 89 = .ok (.ldc2_w 20, 3) := by decide +kernel
theorem dX1_outcome_92 : decode cX1_outcome 92 = .ok (.lload_n 3, 1) := by decide +kernel
theorem dX1_outcome_93 : decode cX1_outcome 93 = .ok (.invokestatic 22, 3) := by decide +kernel
theorem dX1_outcome_96 : decode cX1_outcome 96 = .ok (.invokestatic 25, 3) := by decide +kernel
theorem dX1_outcome_99 : decode cX1_outcome 99 = .ok (.l2i, 1) := by decide +kernel
theorem dX1_outcome_100 : decode cX1_outcome 100 = .ok (.ireturn, 1) := by decide +kernel
theorem dX1_isTrue_0 : decode cX1_isTrue 0 = .ok (.iload_n 1, 1) := by decide +kernel
theorem dX1_isTrue_1 : decode cX1_isTrue 1 = .ok (.tableswitch 60 0 2 #[27, 38, 49], 27) := by decide +kernel
theorem dX1_isTrue_28 : decode cX1_isTrue 28 = .ok (.iload_n 0, 1) := by decide +kernel
theorem dX1_isTrue_29 : decode cX1_isTrue 29 = .ok (.iload_n 2, 1) := by decide +kernel
theorem dX1_isTrue_30 : decode cX1_isTrue 30 = .ok (.if_icmp .ge 7, 3) := by decide +kernel
theorem dX1_isTrue_33 : decode cX1_isTrue 33 = .ok (.iconst 1, 1) := by decide +kernel
theorem dX1_isTrue_34 : decode cX1_isTrue 34 = .ok (.goto 4, 3) := by decide +kernel
theorem dX1_isTrue_37 : decode cX1_isTrue 37 = .ok (.iconst 0, 1) := by decide +kernel
theorem dX1_isTrue_38 : decode cX1_isTrue 38 = .ok (.ireturn, 1) := by decide +kernel
theorem dX1_isTrue_39 : decode cX1_isTrue 39 = .ok (.iload_n 0, 1) := by decide +kernel
theorem dX1_isTrue_40 : decode cX1_isTrue 40 = .ok (.iload_n 2, 1) := by decide +kernel
theorem dX1_isTrue_41 : decode cX1_isTrue 41 = .ok (.if_icmp .gt 7, 3) := by decide +kernel
theorem dX1_isTrue_44 : decode cX1_isTrue 44 = .ok (.iconst 1, 1) := by decide +kernel
theorem dX1_isTrue_45 : decode cX1_isTrue 45 = .ok (.goto 4, 3) := by decide +kernel
theorem dX1_isTrue_48 : decode cX1_isTrue 48 = .ok (.iconst 0, 1) := by decide +kernel
theorem dX1_isTrue_49 : decode cX1_isTrue 49 = .ok (.ireturn, 1) := by decide +kernel
theorem dX1_isTrue_50 : decode cX1_isTrue 50 = .ok (.iload_n 0, 1) := by decide +kernel
theorem dX1_isTrue_51 : decode cX1_isTrue 51 = .ok (.iload_n 2, 1) := by decide +kernel
theorem dX1_isTrue_52 : decode cX1_isTrue 52 = .ok (.if_icmp .ne 7, 3) := by decide +kernel
theorem dX1_isTrue_55 : decode cX1_isTrue 55 = .ok (.iconst 1, 1) := by decide +kernel
theorem dX1_isTrue_56 : decode cX1_isTrue 56 = .ok (.goto 4, 3) := by decide +kernel
theorem dX1_isTrue_59 : decode cX1_isTrue 59 = .ok (.iconst 0, 1) := by decide +kernel
theorem dX1_isTrue_60 : decode cX1_isTrue 60 = .ok (.ireturn, 1) := by decide +kernel
theorem dX1_isTrue_61 : decode cX1_isTrue 61 = .ok (.iload_n 0, 1) := by decide +kernel
theorem dX1_isTrue_62 : decode cX1_isTrue 62 = .ok (.iload_n 2, 1) := by decide +kernel
theorem dX1_isTrue_63 : decode cX1_isTrue 63 = .ok (.if_icmp .eq 7, 3) := by decide +kernel
theorem dX1_isTrue_66 : decode cX1_isTrue 66 = .ok (.iconst 1, 1) := by decide +kernel
theorem dX1_isTrue_67 : decode cX1_isTrue 67 = .ok (.goto 4, 3) := by decide +kernel
theorem dX1_isTrue_70 : decode cX1_isTrue 70 = .ok (.iconst 0, 1) := by decide +kernel
theorem dX1_isTrue_71 : decode cX1_isTrue 71 = .ok (.ireturn, 1) := by decide +kernel
theorem dX1_oppositeOfSwapped_0 : decode cX1_oppositeOfSwapped 0 = .ok (.iload_n 0, 1) := by decide +kernel
theorem dX1_oppositeOfSwapped_1 : decode cX1_oppositeOfSwapped 1 = .ok (.tableswitch 33 0 2 #[27, 29, 31], 27) := by decide +kernel
theorem dX1_oppositeOfSwapped_28 : decode cX1_oppositeOfSwapped 28 = .ok (.iconst 1, 1) := by decide +kernel
theorem dX1_oppositeOfSwapped_29 : decode cX1_oppositeOfSwapped 29 = .ok (.ireturn, 1) := by decide +kernel
theorem dX1_oppositeOfSwapped_30 : decode cX1_oppositeOfSwapped 30 = .ok (.iconst 0, 1) := by decide +kernel
theorem dX1_oppositeOfSwapped_31 : decode cX1_oppositeOfSwapped 31 = .ok (.ireturn, 1) := by decide +kernel
theorem dX1_oppositeOfSwapped_32 : decode cX1_oppositeOfSwapped 32 = .ok (.iconst 3, 1) := by decide +kernel
theorem dX1_oppositeOfSwapped_33 : decode cX1_oppositeOfSwapped 33 = .ok (.ireturn, 1) := by decide +kernel
theorem dX1_oppositeOfSwapped_34 : decode cX1_oppositeOfSwapped 34 = .ok (.iconst 2, 1) := by decide +kernel
theorem dX1_oppositeOfSwapped_35 : decode cX1_oppositeOfSwapped 35 = .ok (.ireturn, 1) := by decide +kernel
theorem dX2_init_0 : decode cX2_init 0 = .ok (.aload_n 0, 1) := by decide +kernel
theorem dX2_init_1 : decode cX2_init 1 = .ok (.invokespecial 3, 3) := by decide +kernel
theorem dX2_init_4 : decode cX2_init 4 = .ok (.aload_n 0, 1) := by decide +kernel
theorem dX2_init_5 : decode cX2_init 5 = .ok (.iconst 0, 1) := by decide +kernel
theorem dX2_init_6 : decode cX2_init 6 = .ok (.putfield 9, 3) := by decide +kernel
theorem dX2_init_9 : decode cX2_init 9 = .ok (.aload_n 0, 1) := by decide +kernel
theorem dX2_init_10 : decode cX2_init 10 = .ok (.bipush 8, 2) := by decide +kernel
theorem dX2_init_12 : decode cX2_init 12 = .ok (.newarray .int, 2) := by decide +kernel
theorem dX2_init_14 : decode cX2_init 14 = .ok (.putfield 15, 3) := by decide +kernel
theorem dX2_init_17 : decode cX2_init 17 = .ok (.aload_n 0, 1) := by decide +kernel
theorem dX2_init_18 : decode cX2_init 18 = .ok (.bipush 8, 2) := by decide +kernel
theorem dX2_init_20 : decode cX2_init 20 = .ok (.newarray .int, 2) := by decide +kernel
theorem dX2_init_22 : decode cX2_init 22 = .ok (.putfield 19, 3) := by decide +kernel
theorem dX2_init_25 : decode cX2_init 25 = .ok (.aload_n 0, 1) := by decide +kernel
theorem dX2_init_26 : decode cX2_init 26 = .ok (.bipush 8, 2) := by decide +kernel
theorem dX2_init_28 : decode cX2_init 28 = .ok (.newarray .int, 2) := by decide +kernel
theorem dX2_init_30 : decode cX2_init 30 = .ok (.putfield 22, 3) := by decide +kernel
theorem dX2_init_33 : decode cX2_init 33 = .ok (.aload_n 0, 1) := by decide +kernel
theorem dX2_init_34 : decode cX2_init 34 = .ok (.bipush 8, 2) := by decide +kernel
theorem dX2_init_36 : decode cX2_init 36 = .ok (.newarray .int, 2) := by decide +kernel
theorem dX2_init_38 : decode cX2_init 38 = .ok (.putfield 25, 3) := by decide +kernel
theorem dX2_init_41 : decode cX2_init 41 = .ok (.aload_n 0, 1) := by decide +kernel
theorem dX2_init_42 : decode cX2_init 42 = .ok (.iconst 0, 1) := by decide +kernel
theorem dX2_init_43 : decode cX2_init 43 = .ok (.putfield 28, 3) := by decide +kernel
theorem dX2_init_46 : decode cX2_init 46 = .ok (.aload_n 0, 1) := by decide +kernel
theorem dX2_init_47 : decode cX2_init 47 = .ok (.iconst 2, 1) := by decide +kernel
theorem dX2_init_48 : decode cX2_init 48 = .ok (.newarray .int, 2) := by decide +kernel
theorem dX2_init_50 : decode cX2_init 50 = .ok (.putfield 31, 3) := by decide +kernel
theorem dX2_init_53 : decode cX2_init 53 = .ok (.aload_n 0, 1) := by decide +kernel
theorem dX2_init_54 : decode cX2_init 54 = .ok (.iconst 0, 1) := by decide +kernel
theorem dX2_init_55 : decode cX2_init 55 = .ok (.putfield 34, 3) := by decide +kernel
theorem dX2_init_58 : decode cX2_init 58 = .ok (.aload_n 0, 1) := by decide +kernel
theorem dX2_init_59 : decode cX2_init 59 = .ok (.iconst 0, 1) := by decide +kernel
theorem dX2_init_60 : decode cX2_init 60 = .ok (.putfield 37, 3) := by decide +kernel
theorem dX2_init_63 : decode cX2_init 63 = .ok (.aload_n 0, 1) := by decide +kernel
theorem dX2_init_64 : decode cX2_init 64 = .ok (.iconst 0, 1) := by decide +kernel
theorem dX2_init_65 : decode cX2_init 65 = .ok (.putfield 40, 3) := by decide +kernel
theorem dX2_init_68 : decode cX2_init 68 = .ok (.return_, 1) := by decide +kernel
theorem dX2_append_0 : decode cX2_append 0 = .ok (.aload_n 0, 1) := by decide +kernel
theorem dX2_append_1 : decode cX2_append 1 = .ok (.getfield 9, 3) := by decide +kernel
theorem dX2_append_4 : decode cX2_append 4 = .ok (.istore 5, 2) := by decide +kernel
theorem dX2_append_6 : decode cX2_append 6 = .ok (.iload 5, 2) := by decide +kernel
theorem dX2_append_8 : decode cX2_append 8 = .ok (.bipush 8, 2) := by decide +kernel
theorem dX2_append_10 : decode cX2_append 10 = .ok (.if_icmp .ge 44, 3) := by decide +kernel
theorem dX2_append_13 : decode cX2_append 13 = .ok (.aload_n 0, 1) := by decide +kernel
theorem dX2_append_14 : decode cX2_append 14 = .ok (.getfield 15, 3) := by decide +kernel
theorem dX2_append_17 : decode cX2_append 17 = .ok (.iload 5, 2) := by decide +kernel
theorem dX2_append_19 : decode cX2_append 19 = .ok (.iload_n 1, 1) := by decide +kernel
theorem dX2_append_20 : decode cX2_append 20 = .ok (.iastore, 1) := by decide +kernel
theorem dX2_append_21 : decode cX2_append 21 = .ok (.aload_n 0, 1) := by decide +kernel
theorem dX2_append_22 : decode cX2_append 22 = .ok (.getfield 19, 3) := by decide +kernel
theorem dX2_append_25 : decode cX2_append 25 = .ok (.iload 5, 2) := by decide +kernel
theorem dX2_append_27 : decode cX2_append 27 = .ok (.iload_n 2, 1) := by decide +kernel
theorem dX2_append_28 : decode cX2_append 28 = .ok (.iastore, 1) := by decide +kernel
theorem dX2_append_29 : decode cX2_append 29 = .ok (.aload_n 0, 1) := by decide +kernel
theorem dX2_append_30 : decode cX2_append 30 = .ok (.getfield 22, 3) := by decide +kernel
theorem dX2_append_33 : decode cX2_append 33 = .ok (.iload 5, 2) := by decide +kernel
theorem dX2_append_35 : decode cX2_append 35 = .ok (.iload_n 3, 1) := by decide +kernel
theorem dX2_append_36 : decode cX2_append 36 = .ok (.iastore, 1) := by decide +kernel
theorem dX2_append_37 : decode cX2_append 37 = .ok (.aload_n 0, 1) := by decide +kernel
theorem dX2_append_38 : decode cX2_append 38 = .ok (.getfield 25, 3) := by decide +kernel
theorem dX2_append_41 : decode cX2_append 41 = .ok (.iload 5, 2) := by decide +kernel
theorem dX2_append_43 : decode cX2_append 43 = .ok (.iload 4, 2) := by decide +kernel
theorem dX2_append_45 : decode cX2_append 45 = .ok (.iastore, 1) := by decide +kernel
theorem dX2_append_46 : decode cX2_append 46 = .ok (.aload_n 0, 1) := by decide +kernel
theorem dX2_append_47 : decode cX2_append 47 = .ok (.iload 5, 2) := by decide +kernel
theorem dX2_append_49 : decode cX2_append 49 = .ok (.iconst 1, 1) := by decide +kernel
theorem dX2_append_50 : decode cX2_append 50 = .ok (.iadd, 1) := by decide +kernel
theorem dX2_append_51 : decode cX2_append 51 = .ok (.putfield 9, 3) := by decide +kernel
theorem dX2_append_54 : decode cX2_append 54 = .ok (.aload_n 0, 1) := by decide +kernel
theorem dX2_append_55 : decode cX2_append 55 = .ok (.getfield 9, 3) := by decide +kernel
theorem dX2_append_58 : decode cX2_append 58 = .ok (.ireturn, 1) := by decide +kernel
theorem dX2_endWithJump_0 : decode cX2_endWithJump 0 = .ok (.aload_n 0, 1) := by decide +kernel
theorem dX2_endWithJump_1 : decode cX2_endWithJump 1 = .ok (.iconst 1, 1) := by decide +kernel
theorem dX2_endWithJump_2 : decode cX2_endWithJump 2 = .ok (.putfield 28, 3) := by decide +kernel
theorem dX2_endWithJump_5 : decode cX2_endWithJump 5 = .ok (.aload_n 0, 1) := by decide +kernel
theorem dX2_endWithJump_6 : decode cX2_endWithJump 6 = .ok (.getfield 31, 3) := by decide +kernel
theorem dX2_endWithJump_9 : decode cX2_endWithJump 9 = .ok (.iconst 0, 1) := by decide +kernel
theorem dX2_endWithJump_10 : decode cX2_endWithJump 10 = .ok (.iload_n 1, 1) := by decide +kernel
theorem dX2_endWithJump_11 : decode cX2_endWithJump 11 = .ok (.iastore, 1) := by decide +kernel
theorem dX2_endWithJump_12 : decode cX2_endWithJump 12 = .ok (.return_, 1) := by decide +kernel
theorem dX2_endWithBranch_0 : decode cX2_endWithBranch 0 = .ok (.aload_n 0, 1) := by decide +kernel
theorem dX2_endWithBranch_1 : decode cX2_endWithBranch 1 = .ok (.iconst 2, 1) := by decide +kernel
theorem dX2_endWithBranch_2 : decode cX2_endWithBranch 2 = .ok (.putfield 28, 3) := by decide +kernel
theorem dX2_endWithBranch_5 : decode cX2_endWithBranch 5 = .ok (.aload_n 0, 1) := by decide +kernel
theorem dX2_endWithBranch_6 : decode cX2_endWithBranch 6 = .ok (.iload_n 1, 1) := by decide +kernel
theorem dX2_endWithBranch_7 : decode cX2_endWithBranch 7 = .ok (.putfield 34, 3) := by decide +kernel
theorem dX2_endWithBranch_10 : decode cX2_endWithBranch 10 = .ok (.aload_n 0, 1) := by decide +kernel
theorem dX2_endWithBranch_11 : decode cX2_endWithBranch 11 = .ok (.iload_n 2, 1) := by decide +kernel
theorem dX2_endWithBranch_12 : decode cX2_endWithBranch 12 = .ok (.putfield 40, 3) := by decide +kernel
theorem dX2_endWithBranch_15 : decode cX2_endWithBranch 15 = .ok (.aload_n 0, 1) := by decide +kernel
theorem dX2_endWithBranch_16 : decode cX2_endWithBranch 16 = .ok (.iload_n 3, 1) := by decide +kernel
theorem dX2_endWithBranch_17 : decode cX2_endWithBranch 17 = .ok (.putfield 37, 3) := by decide +kernel
theorem dX2_endWithBranch_20 : decode cX2_endWithBranch 20 = .ok (.aload_n 0, 1) := by decide +kernel
theorem dX2_endWithBranch_21 : decode cX2_endWithBranch 21 = .ok (.getfield 31, 3) := by decide +kernel
theorem dX2_endWithBranch_24 : decode cX2_endWithBranch 24 = .ok (.iconst 0, 1) := by decide +kernel
theorem dX2_endWithBranch_25 : decode cX2_endWithBranch 25 = .ok (.iload 4, 2) := by decide +kernel
theorem dX2_endWithBranch_27 : decode cX2_endWithBranch 27 = .ok (.iastore, 1) := by decide +kernel
theorem dX2_endWithBranch_28 : decode cX2_endWithBranch 28 = .ok (.aload_n 0, 1) := by decide +kernel
theorem dX2_endWithBranch_29 : decode cX2_endWithBranch 29 = .ok (.getfield 31, 3) := by decide +kernel
theorem dX2_endWithBranch_32 : decode cX2_endWithBranch 32 = .ok (.iconst 1, 1) := by decide +kernel
theorem dX2_endWithBranch_33 : decode cX2_endWithBranch 33 = .ok (.iload 5, 2) := by decide +kernel
theorem dX2_endWithBranch_35 : decode cX2_endWithBranch 35 = .ok (.iastore, 1) := by decide +kernel
theorem dX2_endWithBranch_36 : decode cX2_endWithBranch 36 = .ok (.return_, 1) := by decide +kernel
theorem dX2_makeEmpty_0 : decode cX2_makeEmpty 0 = .ok (.aload_n 0, 1) := by decide +kernel
theorem dX2_makeEmpty_1 : decode cX2_makeEmpty 1 = .ok (.iconst 0, 1) := by decide +kernel
theorem dX2_makeEmpty_2 : decode cX2_makeEmpty 2 = .ok (.putfield 9, 3) := by decide +kernel
theorem dX2_makeEmpty_5 : decode cX2_makeEmpty 5 = .ok (.aload_n 0, 1) := by decide +kernel
theorem dX2_makeEmpty_6 : decode cX2_makeEmpty 6 = .ok (.iconst 0, 1) := by decide +kernel
theorem dX2_makeEmpty_7 : decode cX2_makeEmpty 7 = .ok (.putfield 28, 3) := by decide +kernel
theorem dX2_makeEmpty_10 : decode cX2_makeEmpty 10 = .ok (.return_, 1) := by decide +kernel
set_option maxRecDepth 20000 in
theorem ggX2_applyTo_X7_setRange : GoodIn wsX2_applyTo wsX7_setRange := goodIn_r _ [11, 12, 13, 39, 40, 41] (by decide +kernel) (by decide +kernel)
set_option maxRecDepth 20000 in
theorem gX2_applyTo_X7_setRange : GoodIn wsX2_applyTo (wsV RX2 49 RX7 yX7_setRange wsX7_setRange) := goodIn_app (goodIn_of _ (by decide +kernel)) ggX2_applyTo_X7_setRange
set_option maxRecDepth 20000 in
theorem ggX2_applyTo_X7_assign : GoodIn wsX2_applyTo wsX7_assign := goodIn_r _ [17, 12, 13, 18, 19, 20, 21, 22, 23, 24, 25, 26, 27, 28, 29, 30, 31, 32, 33, 34, 35, 36, 37, 38, 39, 40, 41] (by decide +kernel) (by decide +kernel)
set_option maxRecDepth 20000 in
theorem gX2_applyTo_X7_assign : GoodIn wsX2_applyTo (wsV RX2 53 RX7 yX7_assign wsX7_assign) := goodIn_app (goodIn_of _ (by decide +kernel)) ggX2_applyTo_X7_assign
theorem dX2_applyTo_0 : decode cX2_applyTo 0 = .ok (.aload_n 1, 1) := by decide +kernel
theorem dX2_applyTo_1 : decode cX2_applyTo 1 = .ok (.getfield 43, 3) := by decide +kernel
theorem dX2_applyTo_4 : decode cX2_applyTo 4 = .ok (.ifCond .eq 4, 3) := by decide +kernel
theorem dX2_applyTo_7 : decode cX2_applyTo 7 = .ok (.return_, 1) := by decide +kernel
theorem dX2_applyTo_8 : decode cX2_applyTo 8 = .ok (.iconst 0, 1) := by decide +kernel
theorem dX2_applyTo_9 : decode cX2_applyTo 9 = .ok (.istore_n 2, 1) := by decide +kernel
theorem dX2_applyTo_10 : decode cX2_applyTo 10 = .ok (.iload_n 2, 1) := by decide +kernel
theorem dX2_applyTo_11 : decode cX2_applyTo 11 = .ok (.aload_n 0, 1) := by decide +kernel
theorem dX2_applyTo_12 : decode cX2_applyTo 12 = .ok (.getfield 9, 3) := by decide +kernel
theorem dX2_applyTo_15 : decode cX2_applyTo 15 = .ok (.if_icmp .ge 84, 3) := by decide +kernel
theorem dX2_applyTo_18 : decode cX2_applyTo 18 = .ok (.aload_n 0, 1) := by decide +kernel
theorem dX2_applyTo_19 : decode cX2_applyTo 19 = .ok (.getfield 15, 3) := by decide +kernel
theorem dX2_applyTo_22 : decode cX2_applyTo 22 = .ok (.iload_n 2, 1) := by decide +kernel
theorem dX2_applyTo_23 : decode cX2_applyTo 23 = .ok (.iaload, 1) := by decide +kernel
theorem dX2_applyTo_24 : decode cX2_applyTo 24 = .ok (.bipush 6, 2) := by decide +kernel
theorem dX2_applyTo_26 : decode cX2_applyTo 26 = .ok (.if_icmp .eq 14, 3) := by decide +kernel
theorem dX2_applyTo_29 : decode cX2_applyTo 29 = .ok (.aload_n 0, 1) := by decide +kernel
theorem dX2_applyTo_30 : decode cX2_applyTo 30 = .ok (.getfield 15, 3) := by decide +kernel
theorem dX2_applyTo_33 : decode cX2_applyTo 33 = .ok (.iload_n 2, 1) := by decide +kernel
theorem dX2_applyTo_34 : decode cX2_applyTo 34 = .ok (.iaload, 1) := by decide +kernel
theorem dX2_applyTo_35 : decode cX2_applyTo 35 = .ok (.bipush 7, 2) := by decide +kernel
theorem dX2_applyTo_37 : decode cX2_applyTo 37 = .ok (.if_icmp .ne 28, 3) := by decide +kernel
theorem dX2_applyTo_40 : decode cX2_applyTo 40 = .ok (.aload_n 1, 1) := by decide +kernel
theorem dX2_applyTo_41 : decode cX2_applyTo 41 = .ok (.aload_n 0, 1) := by decide +kernel
theorem dX2_applyTo_42 : decode cX2_applyTo 42 = .ok (.getfield 19, 3) := by decide +kernel
theorem dX2_applyTo_45 : decode cX2_applyTo 45 = .ok (.iload_n 2, 1) := by decide +kernel
theorem dX2_applyTo_46 : decode cX2_applyTo 46 = .ok (.iaload, 1) := by decide +kernel
theorem dX2_applyTo_47 : decode cX2_applyTo 47 = .ok (.aload_n 0, 1) := by decide +kernel
theorem dX2_applyTo_48 : decode cX2_applyTo 48 = .ok (.getfield 22, 3) := by decide +kernel
theorem dX2_applyTo_51 : decode cX2_applyTo 51 = .ok (.iload_n 2, 1) := by decide +kernel
theorem dX2_applyTo_52 : decode cX2_applyTo 52 = .ok (.iaload, 1) := by decide +kernel
theorem dX2_applyTo_53 : decode cX2_applyTo 53 = .ok (.aload_n 0, 1) := by decide +kernel
theorem dX2_applyTo_54 : decode cX2_applyTo 54 = .ok (.getfield 25, 3) := by decide +kernel
theorem dX2_applyTo_57 : decode cX2_applyTo 57 = .ok (.iload_n 2, 1) := by decide +kernel
theorem dX2_applyTo_58 : decode cX2_applyTo 58 = .ok (.iaload, 1) := by decide +kernel
theorem dX2_applyTo_59 : decode cX2_applyTo 59 = .ok (.invokevirtual 49, 3) := by decide +kernel
theorem dX2_applyTo_62 : decode cX2_applyTo 62 = .ok (.goto 31, 3) := by decide +kernel
theorem dX2_applyTo_65 : decode cX2_applyTo 65 = .ok (.aload_n 1, 1) := by decide +kernel
theorem dX2_applyTo_66 : decode cX2_applyTo 66 = .ok (.aload_n 0, 1) := by decide +kernel
theorem dX2_applyTo_67 : decode cX2_applyTo 67 = .ok (.getfield 15, 3) := by decide +kernel
theorem dX2_applyTo_70 : decode cX2_applyTo 70 = .ok (.iload_n 2, 1) := by decide +kernel
theorem dX2_applyTo_71 : decode cX2_applyTo 71 = .ok (.iaload, 1) := by decide +kernel
theorem dX2_applyTo_72 : decode cX2_applyTo 72 = .ok (.aload_n 0, 1) := by decide +kernel
theorem dX2_applyTo_73 : decode cX2_applyTo 73 = .ok (.getfield 19, 3) := by decide +kernel
theorem dX2_applyTo_76 : decode cX2_applyTo 76 = .ok (.iload_n 2, 1) := by decide +kernel
theorem dX2_applyTo_77 : decode cX2_applyTo 77 = .ok (.iaload, 1) := by decide +kernel
theorem dX2_applyTo_78 : decode cX2_applyTo 78 = .ok (.aload_n 0, 1) := by decide +kernel
theorem dX2_applyTo_79 : decode cX2_applyTo 79 = .ok (.getfield 22, 3) := by decide +kernel
theorem dX2_applyTo_82 : decode cX2_applyTo 82 = .ok (.iload_n 2, 1) := by decide +kernel
theorem dX2_applyTo_83 : decode cX2_applyTo 83 = .ok (.iaload, 1) := by decide +kernel
theorem dX2_applyTo_84 : decode cX2_applyTo 84 = .ok (.aload_n 0, 1) := by decide +kernel
theorem dX2_applyTo_85 : decode cX2_applyTo 85 = .ok (.getfield 25, 3) := by decide +kernel
theorem dX2_applyTo_88 : decode cX2_applyTo 88 = .ok (.iload_n 2, 1) := by decide +kernel
theorem dX2_applyTo_89 : decode cX2_applyTo 89 = .ok (.iaload, 1) := by decide +kernel
theorem dX2_applyTo_90 : decode cX2_applyTo 90 = .ok (.invokevirtual 53, 3) := by decide +kernel
theorem dX2_applyTo_93 : decode cX2_applyTo 93 = .ok (.iinc 2 1, 3) := by decide +kernel
theorem dX2_applyTo_96 : decode cX2_applyTo 96 = .ok (.goto (-86), 3) := by decide +kernel
theorem dX2_applyTo_99 : decode cX2_applyTo 99 = .ok (.return_, 1) := by decide +kernel
set_option maxRecDepth 20000 in
theorem ggX2_refineForEdge_X7_refine : GoodIn wsX2_refineForEdge wsX7_refine := goodIn_r _ [10, 11, 12, 13, 14, 15, 16, 17, 18, 9, 19, 20, 21, 22, 23, 24, 25, 26, 27, 28, 29, 30, 31, 32, 33, 34, 35, 36, 37, 38, 39, 40, 41, 42, 43, 44, 45, 46, 47, 48, 52, 53, 54] (by decide +kernel) (by decide +kernel)
set_option maxRecDepth 20000 in
theorem gX2_refineForEdge_X7_refine : GoodIn wsX2_refineForEdge (wsV RX2 57 RX7 yX7_refine wsX7_refine) := goodIn_app (goodIn_of _ (by decide +kernel)) ggX2_refineForEdge_X7_refine
set_option maxRecDepth 20000 in
theorem ggX2_refineForEdge_X1_oppositeOfSwapped : GoodIn wsX2_refineForEdge wsX1_oppositeOfSwapped := goodIn_r _ [51] (by decide +kernel) (by decide +kernel)
set_option maxRecDepth 20000 in
theorem gX2_refineForEdge_X1_oppositeOfSwapped : GoodIn wsX2_refineForEdge (va_wsS RX2 60 yX1_oppositeOfSwapped wsX1_oppositeOfSwapped) := goodIn_app (goodIn_of _ (by decide +kernel)) ggX2_refineForEdge_X1_oppositeOfSwapped
theorem dX2_refineForEdge_0 : decode cX2_refineForEdge 0 = .ok (.aload_n 1, 1) := by decide +kernel
theorem dX2_refineForEdge_1 : decode cX2_refineForEdge 1 = .ok (.getfield 43, 3) := by decide +kernel
theorem dX2_refineForEdge_4 : decode cX2_refineForEdge 4 = .ok (.ifCond .ne 11, 3) := by decide +kernel
theorem dX2_refineForEdge_7 : decode cX2_refineForEdge 7 = .ok (.aload_n 0, 1) := by decide +kernel
theorem dX2_refineForEdge_8 : decode cX2_refineForEdge 8 = .ok (.getfield 28, 3) := by decide +kernel
theorem dX2_refineForEdge_11 : decode cX2_refineForEdge 11 = .ok (.iconst 2, 1) := by decide +kernel
theorem dX2_refineForEdge_12 : decode cX2_refineForEdge 12 = .ok (.if_icmp .ge 4, 3) := by decide +kernel
theorem dX2_refineForEdge_15 : decode cX2_refineForEdge 15 = .ok (.return_, 1) := by decide +kernel
theorem dX2_refineForEdge_16 : decode cX2_refineForEdge 16 = .ok (.iload_n 2, 1) := by decide +kernel
theorem dX2_refineForEdge_17 : decode cX2_refineForEdge 17 = .ok (.ifCond .ne 22, 3) := by decide +kernel
theorem dX2_refineForEdge_20 : decode cX2_refineForEdge 20 = .ok (.aload_n 1, 1) := by decide +kernel
theorem dX2_refineForEdge_21 : decode cX2_refineForEdge 21 = .ok (.aload_n 0, 1) := by decide +kernel
theorem dX2_refineForEdge_22 : decode cX2_refineForEdge 22 = .ok (.getfield 34, 3) := by decide +kernel
theorem dX2_refineForEdge_25 : decode cX2_refineForEdge 25 = .ok (.aload_n 0, 1) := by decide +kernel
theorem dX2_refineForEdge_26 : decode cX2_refineForEdge 26 = .ok (.getfield 40, 3) := by decide +kernel
theorem dX2_refineForEdge_29 : decode cX2_refineForEdge 29 = .ok (.aload_n 0, 1) := by decide +kernel
theorem dX2_refineForEdge_30 : decode cX2_refineForEdge 30 = .ok (.getfield 37, 3) := by decide +kernel
theorem dX2_refineForEdge_33 : decode cX2_refineForEdge 33 = .ok (.invokevirtual 57, 3) := by decide +kernel
theorem dX2_refineForEdge_36 : decode cX2_refineForEdge 36 = .ok (.goto 22, 3) := by decide +kernel
theorem dX2_refineForEdge_39 : decode cX2_refineForEdge 39 = .ok (.aload_n 1, 1) := by decide +kernel
theorem dX2_refineForEdge_40 : decode cX2_refineForEdge 40 = .ok (.aload_n 0, 1) := by decide +kernel
theorem dX2_refineForEdge_41 : decode cX2_refineForEdge 41 = .ok (.getfield 37, 3) := by decide +kernel
theorem dX2_refineForEdge_44 : decode cX2_refineForEdge 44 = .ok (.aload_n 0, 1) := by decide +kernel
theorem dX2_refineForEdge_45 : decode cX2_refineForEdge 45 = .ok (.getfield 40, 3) := by decide +kernel
theorem dX2_refineForEdge_48 : decode cX2_refineForEdge 48 = .ok (.invokestatic 60, 3) := by decide +kernel
theorem dX2_refineForEdge_51 : decode cX2_refineForEdge 51 = .ok (.aload_n 0, 1) := by decide +kernel
theorem dX2_refineForEdge_52 : decode cX2_refineForEdge 52 = .ok (.getfield 34, 3) := by decide +kernel
theorem dX2_refineForEdge_55 : decode cX2_refineForEdge 55 = .ok (.invokevirtual 57, 3) := by decide +kernel
theorem dX2_refineForEdge_58 : decode cX2_refineForEdge 58 = .ok (.return_, 1) := by decide +kernel
theorem dX3_init_0 : decode cX3_init 0 = .ok (.aload_n 0, 1) := by decide +kernel
theorem dX3_init_1 : decode cX3_init 1 = .ok (.invokespecial 3, 3) := by decide +kernel
theorem dX3_init_4 : decode cX3_init 4 = .ok (.aload_n 0, 1) := by decide +kernel
theorem dX3_init_5 : decode cX3_init 5 = .ok (.bipush 6, 2) := by decide +kernel
theorem dX3_init_7 : decode cX3_init 7 = .ok (.newarray .int, 2) := by decide +kernel
theorem dX3_init_9 : decode cX3_init 9 = .ok (.putfield 9, 3) := by decide +kernel
theorem dX3_init_12 : decode cX3_init 12 = .ok (.aload_n 0, 1) := by decide +kernel
theorem dX3_init_13 : decode cX3_init 13 = .ok (.sipush 300, 3) := by decide +kernel
theorem dX3_init_16 : decode cX3_init 16 = .ok (.newarray .int, 2) := by decide +kernel
theorem dX3_init_18 : decode cX3_init 18 = .ok (.putfield 15, 3) := by decide +kernel
theorem dX3_init_21 : decode cX3_init 21 = .ok (.aload_n 0, 1) := by decide +kernel
theorem dX3_init_22 : decode cX3_init 22 = .ok (.sipush 1800, 3) := by decide +kernel
theorem dX3_init_25 : decode cX3_init 25 = .ok (.newarray .int, 2) := by decide +kernel
theorem dX3_init_27 : decode cX3_init 27 = .ok (.putfield 18, 3) := by decide +kernel
theorem dX3_init_30 : decode cX3_init 30 = .ok (.aload_n 0, 1) := by decide +kernel
theorem dX3_init_31 : decode cX3_init 31 = .ok (.iconst 0, 1) := by decide +kernel
theorem dX3_init_32 : decode cX3_init 32 = .ok (.putfield 21, 3) := by decide +kernel
theorem dX3_init_35 : decode cX3_init 35 = .ok (.aload_n 0, 1) := by decide +kernel
theorem dX3_init_36 : decode cX3_init 36 = .ok (.lconst 0, 1) := by decide +kernel
theorem dX3_init_37 : decode cX3_init 37 = .ok (.putfield 25, 3) := by decide +kernel
theorem dX3_init_40 : decode cX3_init 40 = .ok (.return_, 1) := by decide +kernel
set_option maxRecDepth 20000 in
theorem ggX3_execute_X3_choose : GoodIn wsX3_execute wsX3_choose := goodIn_r _ [13, 1, 14, 15, 16, 17, 18, 19, 73, 74, 75, 76, 77] (by decide +kernel) (by decide +kernel)
set_option maxRecDepth 20000 in
theorem gX3_execute_X3_choose : GoodIn wsX3_execute (wsV RX3 43 RX3 yX3_choose wsX3_choose) := goodIn_app (goodIn_of _ (by decide +kernel)) ggX3_execute_X3_choose
set_option maxRecDepth 20000 in
theorem ggX3_execute_X3_noteStep : GoodIn wsX3_execute wsX3_noteStep := goodIn_r _ [23, 24, 3, 25, 26, 27, 28, 29, 6, 73, 74, 75, 76, 77] (by decide +kernel) (by decide +kernel)
set_option maxRecDepth 20000 in
theorem gX3_execute_X3_noteStep : GoodIn wsX3_execute (wsV RX3 51 RX3 yX3_noteStep wsX3_noteStep) := goodIn_app (goodIn_of _ (by decide +kernel)) ggX3_execute_X3_noteStep
set_option maxRecDepth 20000 in
theorem ggX3_execute_X3_perform : GoodIn wsX3_execute wsX3_perform := goodIn_r _ [33, 34, 3, 35, 36, 37, 38, 39, 40, 41, 12, 42, 9, 10, 11, 13, 1, 14, 15, 16, 17, 18, 19, 43, 44, 45, 46, 47, 48, 49, 50, 51, 52, 53, 54, 55, 56, 57, 58, 59, 60, 61, 84, 85, 86, 87, 88, 89, 90, 91, 92, 93, 73, 74, 75, 76, 77] (by decide +kernel) (by decide +kernel)
set_option maxRecDepth 20000 in
theorem gX3_execute_X3_perform : GoodIn wsX3_execute (wsV RX3 55 RX3 yX3_perform wsX3_perform) := goodIn_app (goodIn_of _ (by decide +kernel)) ggX3_execute_X3_perform
set_option maxRecDepth 20000 in
theorem ggX3_execute_X3_follower : GoodIn wsX3_execute wsX3_follower := goodIn_r _ [65, 8, 66, 3, 67, 68, 69, 70, 71, 45, 72, 84, 85, 86, 87, 88, 89, 90, 91, 92, 93, 73, 74, 75, 76, 77] (by decide +kernel) (by decide +kernel)
set_option maxRecDepth 20000 in
theorem gX3_execute_X3_follower : GoodIn wsX3_execute (wsV RX3 64 RX3 yX3_follower wsX3_follower) := goodIn_app (goodIn_of _ (by decide +kernel)) ggX3_execute_X3_follower
theorem dX3_execute_0 : decode cX3_execute 0 = .ok (.aload_n 0, 1) := by decide +kernel
theorem dX3_execute_1 : decode cX3_execute 1 = .ok (.lload_n 2, 1) := by decide +kernel
theorem dX3_execute_2 : decode cX3_execute 2 = .ok (.putfield 25, 3) := by decide +kernel
theorem dX3_execute_5 : decode cX3_execute 5 = .ok (.aload_n 1, 1) := by decide +kernel
theorem dX3_execute_6 : decode cX3_execute 6 = .ok (.getfield 29, 3) := by decide +kernel
theorem dX3_execute_9 : decode cX3_execute 9 = .ok (.astore 5, 2) := by decide +kernel
theorem dX3_execute_11 : decode cX3_execute 11 = .ok (.iconst 0, 1) := by decide +kernel
theorem dX3_execute_12 : decode cX3_execute 12 = .ok (.istore 6, 2) := by decide +kernel
theorem dX3_execute_14 : decode cX3_execute 14 = .ok (.iload 6, 2) := by decide +kernel
theorem dX3_execute_16 : decode cX3_execute 16 = .ok (.bipush 6, 2) := by decide +kernel
theorem dX3_execute_18 : decode cX3_execute 18 = .ok (.if_icmp .ge 36, 3) := by decide +kernel
theorem dX3_execute_21 : decode cX3_execute 21 = .ok (.aload_n 0, 1) := by decide +kernel
theorem dX3_execute_22 : decode cX3_execute 22 = .ok (.getfield 9, 3) := by decide +kernel
theorem dX3_execute_25 : decode cX3_execute 25 = .ok (.iload 6, 2) := by decide +kernel
theorem dX3_execute_27 : decode cX3_execute 27 = .ok (.aload_n 0, 1) := by decide +kernel
theorem dX3_execute_28 : decode cX3_execute 28 = .ok (.aload 5, 2) := by decide +kernel
theorem dX3_execute_30 : decode cX3_execute 30 = .ok (.getfield 35, 3) := by decide +kernel
theorem dX3_execute_33 : decode cX3_execute 33 = .ok (.iload 6, 2) := by decide +kernel
theorem dX3_execute_35 : decode cX3_execute 35 = .ok (.iaload, 1) := by decide +kernel
theorem dX3_execute_36 : decode cX3_execute 36 = .ok (.aload 5, 2) := by decide +kernel
theorem dX3_execute_38 : decode cX3_execute 38 = .ok (.getfield 40, 3) := by decide +kernel
theorem dX3_execute_41 : decode cX3_execute 41 = .ok (.iload 6, 2) := by decide +kernel
theorem dX3_execute_43 : decode cX3_execute 43 = .ok (.iaload, 1) := by decide +kernel
theorem dX3_execute_44 : decode cX3_execute 44 = .ok (.invokevirtual 43, 3) := by decide +kernel
theorem dX3_execute_47 : decode cX3_execute 47 = .ok (.iastore, 1) := by decide +kernel
theorem dX3_execute_48 : decode cX3_execute 48 = .ok (.iinc 6 1, 3) := by decide +kernel
theorem dX3_execute_51 : decode cX3_execute 51 = .ok (.goto (-37), 3) := by decide +kernel
theorem dX3_execute_54 : decode cX3_execute 54 = .ok (.aload_n 0, 1) := by decide +kernel
theorem dX3_execute_55 : decode cX3_execute 55 = .ok (.iconst 0, 1) := by decide +kernel
theorem dX3_execute_56 : decode cX3_execute 56 = .ok (.putfield 21, 3) := by decide +kernel
theorem dX3_execute_59 : decode cX3_execute 59 = .ok (.iconst 0, 1) := by decide +kernel
theorem dX3_execute_60 : decode cX3_execute 60 = .ok (.istore 6, 2) := by decide +kernel
theorem dX3_execute_62 : decode cX3_execute 62 = .ok (.iconst 0, 1) := by decide +kernel
theorem dX3_execute_63 : decode cX3_execute 63 = .ok (.istore 7, 2) := by decide +kernel
theorem dX3_execute_65 : decode cX3_execute 65 = .ok (.iload 7, 2) := by decide +kernel
theorem dX3_execute_67 : decode cX3_execute 67 = .ok (.iload 4, 2) := by decide +kernel
theorem dX3_execute_69 : decode cX3_execute 69 = .ok (.if_icmp .ge 57, 3) := by decide +kernel
theorem dX3_execute_72 : decode cX3_execute 72 = .ok (.iload 7, 2) := by decide +kernel
theorem dX3_execute_74 : decode cX3_execute 74 = .ok (.sipush 300, 3) := by decide +kernel
theorem dX3_execute_77 : decode cX3_execute 77 = .ok (.if_icmp .ge 49, 3) := by decide +kernel
theorem dX3_execute_80 : decode cX3_execute 80 = .ok (.aload_n 1, 1) := by decide +kernel
theorem dX3_execute_81 : decode cX3_execute 81 = .ok (.getfield 47, 3) := by decide +kernel
theorem dX3_execute_84 : decode cX3_execute 84 = .ok (.iload 6, 2) := by decide +kernel
theorem dX3_execute_86 : decode cX3_execute 86 = .ok (.aaload, 1) := by decide +kernel
theorem dX3_execute_87 : decode cX3_execute 87 = .ok (.astore 8, 2) := by decide +kernel
theorem dX3_execute_89 : decode cX3_execute 89 = .ok (.aload_n 0, 1) := by decide +kernel
theorem dX3_execute_90 : decode cX3_execute 90 = .ok (.iload 7, 2) := by decide +kernel
theorem dX3_execute_92 : decode cX3_execute 92 = .ok (.iload 6, 2) := by decide +kernel
theorem dX3_execute_94 : decode cX3_execute 94 = .ok (.invokevirtual 51, 3) := by decide +kernel
theorem dX3_execute_97 : decode cX3_execute 97 = .ok (.aload_n 0, 1) := by decide +kernel
theorem dX3_execute_98 : decode cX3_execute 98 = .ok (.aload 8, 2) := by decide +kernel
theorem dX3_execute_100 : decode cX3_execute 100 = .ok (.invokevirtual 55, 3) := by decide +kernel
theorem dX3_execute_103 : decode cX3_execute 103 = .ok (.aload 8, 2) := by decide +kernel
theorem dX3_execute_105 : decode cX3_execute 105 = .ok (.getfield 59, 3) := by decide +kernel
theorem dX3_execute_108 : decode cX3_execute 108 = .ok (.ifCond .ne 4, 3) := by decide +kernel
theorem dX3_execute_111 : decode cX3_execute 111 = .ok (.return_, 1) := by decide +kernel
theorem dX3_execute_112 : decode cX3_execute 112 = .ok (.aload_n 0, 1) := by decide +kernel
theorem dX3_execute_113 : decode cX3_execute 113 = .ok (.aload 8, 2) := by decide +kernel
theorem dX3_execute_115 : decode cX3_execute 115 = .ok (.invokevirtual 64, 3) := by decide +kernel
theorem dX3_execute_118 : decode cX3_execute 118 = .ok (.istore 6, 2) := by decide +kernel
theorem dX3_execute_120 : decode cX3_execute 120 = .ok (.iinc 7 1, 3) := by decide +kernel
theorem dX3_execute_123 : decode cX3_execute 123 = .ok (.goto (-58), 3) := by decide +kernel
theorem dX3_execute_126 : decode cX3_execute 126 = .ok (.return_, 1) := by decide +kernel
theorem dX3_noteStep_0 : decode cX3_noteStep 0 = .ok (.aload_n 0, 1) := by decide +kernel
theorem dX3_noteStep_1 : decode cX3_noteStep 1 = .ok (.getfield 15, 3) := by decide +kernel
theorem dX3_noteStep_4 : decode cX3_noteStep 4 = .ok (.iload_n 1, 1) := by decide +kernel
theorem dX3_noteStep_5 : decode cX3_noteStep 5 = .ok (.iload_n 2, 1) := by decide +kernel
theorem dX3_noteStep_6 : decode cX3_noteStep 6 = .ok (.iastore, 1) := by decide +kernel
theorem dX3_noteStep_7 : decode cX3_noteStep 7 = .ok (.aload_n 0, 1) := by decide +kernel
theorem dX3_noteStep_8 : decode cX3_noteStep 8 = .ok (.getfield 9, 3) := by decide +kernel
theorem dX3_noteStep_11 : decode cX3_noteStep 11 = .ok (.iconst 0, 1) := by decide +kernel
theorem dX3_noteStep_12 : decode cX3_noteStep 12 = .ok (.aload_n 0, 1) := by decide +kernel
theorem dX3_noteStep_13 : decode cX3_noteStep 13 = .ok (.getfield 18, 3) := by decide +kernel
theorem dX3_noteStep_16 : decode cX3_noteStep 16 = .ok (.iload_n 1, 1) := by decide +kernel
theorem dX3_noteStep_17 : decode cX3_noteStep 17 = .ok (.bipush 6, 2) := by decide +kernel
theorem dX3_noteStep_19 : decode cX3_noteStep 19 = .ok (.imul, 1) := by decide +kernel
theorem dX3_noteStep_20 : decode cX3_noteStep 20 = .ok (.bipush 6, 2) := by decide +kernel
theorem dX3_noteStep_22 : decode cX3_noteStep 22 = .ok (.invokestatic 68, 3) := by decide +kernel
theorem dX3_noteStep_25 : decode cX3_noteStep 25 = .ok (.aload_n 0, 1) := by decide +kernel
theorem dX3_noteStep_26 : decode cX3_noteStep 26 = .ok (.iload_n 1, 1) := by decide +kernel
theorem dX3_noteStep_27 : decode cX3_noteStep 27 = .ok (.iconst 1, 1) := by decide +kernel
theorem dX3_noteStep_28 : decode cX3_noteStep 28 = .ok (.iadd, 1) := by decide +kernel
theorem dX3_noteStep_29 : decode cX3_noteStep 29 = .ok (.putfield 21, 3) := by decide +kernel
theorem dX3_noteStep_32 : decode cX3_noteStep 32 = .ok (.return_, 1) := by decide +kernel
set_option maxRecDepth 20000 in
theorem ggX3_perform_X3_outcomeOf : GoodIn wsX3_perform wsX3_outcomeOf := goodIn_r _ [11, 2, 12, 13, 14, 10, 15, 16, 17, 18, 19, 20, 21, 22, 23, 24, 25, 26, 27, 28, 29, 30, 31, 32, 33, 34, 35, 36, 37, 38, 39, 40, 41, 52, 53, 54, 55, 56] (by decide +kernel) (by decide +kernel)
set_option maxRecDepth 20000 in
theorem gX3_perform_X3_outcomeOf : GoodIn wsX3_perform (wsV RX3 89 RX3 yX3_outcomeOf wsX3_outcomeOf) := goodIn_app (goodIn_of _ (by decide +kernel)) ggX3_perform_X3_outcomeOf
theorem dX3_perform_0 : decode cX3_perform 0 = .ok (.iconst 0, 1) := by decide +kernel
theorem dX3_perform_1 : decode cX3_perform 1 = .ok (.istore_n 2, 1) := by decide +kernel
theorem dX3_perform_2 : decode cX3_perform 2 = .ok (.iload_n 2, 1) := by decide +kernel
theorem dX3_perform_3 : decode cX3_perform 3 = .ok (.aload_n 1, 1) := by decide +kernel
theorem dX3_perform_4 : decode cX3_perform 4 = .ok (.getfield 74, 3) := by decide +kernel
theorem dX3_perform_7 : decode cX3_perform 7 = .ok (.if_icmp .ge 42, 3) := by decide +kernel
theorem dX3_perform_10 : decode cX3_perform 10 = .ok (.aload_n 0, 1) := by decide +kernel
theorem dX3_perform_11 : decode cX3_perform 11 = .ok (.getfield 9, 3) := by decide +kernel
theorem dX3_perform_14 : decode cX3_perform 14 = .ok (.aload_n 1, 1) := by decide +kernel
theorem dX3_perform_15 : decode cX3_perform 15 = .ok (.getfield 77, 3) := by decide +kernel
theorem dX3_perform_18 : decode cX3_perform 18 = .ok (.iload_n 2, 1) := by decide +kernel
theorem dX3_perform_19 : decode cX3_perform 19 = .ok (.iaload, 1) := by decide +kernel
theorem dX3_perform_20 : decode cX3_perform 20 = .ok (.aload_n 0, 1) := by decide +kernel
theorem dX3_perform_21 : decode cX3_perform 21 = .ok (.aload_n 1, 1) := by decide +kernel
theorem dX3_perform_22 : decode cX3_perform 22 = .ok (.getfield 80, 3) := by decide +kernel
theorem dX3_perform_25 : decode cX3_perform 25 = .ok (.iload_n 2, 1) := by decide +kernel
theorem dX3_perform_26 : decode cX3_perform 26 = .ok (.iaload, 1) := by decide +kernel
theorem dX3_perform_27 : decode cX3_perform 27 = .ok (.aload_n 1, 1) := by decide +kernel
theorem dX3_perform_28 : decode cX3_perform 28 = .ok (.getfield 83, 3) := by decide +kernel
theorem dX3_perform_31 : decode cX3_perform 31 = .ok (.iload_n 2, 1) := by decide +kernel
theorem dX3_perform_32 : decode cX3_perform 32 = .ok (.iaload, 1) := by decide +kernel
theorem dX3_perform_33 : decode cX3_perform 33 = .ok (.aload_n 1, 1) := by decide +kernel
theorem dX3_perform_34 : decode cX3_perform 34 = .ok (.getfield 86, 3) := by decide +kernel
theorem dX3_perform_37 : decode cX3_perform 37 = .ok (.iload_n 2, 1) := by decide +kernel
theorem dX3_perform_38 : decode cX3_perform 38 = .ok (.iaload, 1) := by decide +kernel
theorem dX3_perform_39 : decode cX3_perform 39 = .ok (.invokevirtual 89, 3) := by decide +kernel
theorem dX3_perform_42 : decode cX3_perform 42 = .ok (.iastore, 1) := by decide +kernel
theorem dX3_perform_43 : decode cX3_perform 43 = .ok (.iinc 2 1, 3) := by decide +kernel
theorem dX3_perform_46 : decode cX3_perform 46 = .ok (.goto (-44), 3) := by decide +kernel
theorem dX3_perform_49 : decode cX3_perform 49 = .ok (.return_, 1) := by decide +kernel
set_option maxRecDepth 20000 in
theorem ggX3_outcomeOf_X3_choose : GoodIn wsX3_outcomeOf wsX3_choose := goodIn_r _ [6, 7, 8, 9, 10, 11, 12, 13, 33, 34, 35, 36, 37] (by decide +kernel) (by decide +kernel)
set_option maxRecDepth 20000 in
theorem gX3_outcomeOf_X3_choose : GoodIn wsX3_outcomeOf (wsV RX3 43 RX3 yX3_choose wsX3_choose) := goodIn_app (goodIn_of _ (by decide +kernel)) ggX3_outcomeOf_X3_choose
set_option maxRecDepth 20000 in
theorem ggX3_outcomeOf_X1_outcome : GoodIn wsX3_outcomeOf wsX1_outcome := goodIn_r _ [17, 18, 19, 20, 21, 22, 23, 24, 25, 26, 27, 28, 29, 30, 31, 32] (by decide +kernel) (by decide +kernel)
set_option maxRecDepth 20000 in
theorem gX3_outcomeOf_X1_outcome : GoodIn wsX3_outcomeOf (va_wsS RX3 93 yX1_outcome wsX1_outcome) := goodIn_app (goodIn_of _ (by decide +kernel)) ggX3_outcomeOf_X1_outcome
theorem dX3_outcomeOf_0 : decode cX3_outcomeOf 0 = .ok (.iload_n 1, 1) := by decide +kernel
theorem dX3_outcomeOf_1 : decode cX3_outcomeOf 1 = .ok (.bipush 7, 2) := by decide +kernel
theorem dX3_outcomeOf_3 : decode cX3_outcomeOf 3 = .ok (.if_icmp .ne 5, 3) := by decide +kernel
theorem dX3_outcomeOf_6 : decode cX3_outcomeOf 6 = .ok (.iload_n 2, 1) := by decide +kernel
theorem dX3_outcomeOf_7 : decode cX3_outcomeOf 7 = .ok (.ireturn, 1) := by decide +kernel
theorem dX3_outcomeOf_8 : decode cX3_outcomeOf 8 = .ok (.iload_n 1, 1) := by decide +kernel
theorem dX3_outcomeOf_9 : decode cX3_outcomeOf 9 = .ok (.bipush 6, 2) := by decide +kernel
theorem dX3_outcomeOf_11 : decode cX3_outcomeOf 11 = .ok (.if_icmp .ne 10, 3) := by decide +kernel
theorem dX3_outcomeOf_14 : decode cX3_outcomeOf 14 = .ok (.aload_n 0, 1) := by decide +kernel
theorem dX3_outcomeOf_15 : decode cX3_outcomeOf 15 = .ok (.iload_n 2, 1) := by decide +kernel
theorem dX3_outcomeOf_16 : decode cX3_outcomeOf 16 = .ok (.iload_n 3, 1) := by decide +kernel
theorem dX3_outcomeOf_17 : decode cX3_outcomeOf 17 = .ok (.invokevirtual 43, 3) := by decide +kernel
theorem dX3_outcomeOf_20 : decode cX3_outcomeOf 20 = .ok (.ireturn, 1) := by decide +kernel
theorem dX3_outcomeOf_21 : decode cX3_outcomeOf 21 = .ok (.iload_n 1, 1) := by decide +kernel
theorem dX3_outcomeOf_22 : decode cX3_outcomeOf 22 = .ok (.aload_n 0, 1) := by decide +kernel
theorem dX3_outcomeOf_23 : decode cX3_outcomeOf 23 = .ok (.getfield 9, 3) := by decide +kernel
theorem dX3_outcomeOf_26 : decode cX3_outcomeOf 26 = .ok (.iload_n 2, 1) := by decide +kernel
theorem dX3_outcomeOf_27 : decode cX3_outcomeOf 27 = .ok (.iaload, 1) := by decide +kernel
theorem dX3_outcomeOf_28 : decode cX3_outcomeOf 28 = .ok (.aload_n 0, 1) := by decide +kernel
theorem dX3_outcomeOf_29 : decode cX3_outcomeOf 29 = .ok (.getfield 9, 3) := by decide +kernel
theorem dX3_outcomeOf_32 : decode cX3_outcomeOf 32 = .ok (.iload_n 3, 1) := by decide +kernel
theorem dX3_outcomeOf_33 : decode cX3_outcomeOf 33 = .ok (.iaload, 1) := by decide +kernel
theorem dX3_outcomeOf_34 : decode cX3_outcomeOf 34 = .ok (.invokestatic 93, 3) := by decide +kernel
theorem dX3_outcomeOf_37 : decode cX3_outcomeOf 37 = .ok (.ireturn, 1) := by decide +kernel
set_option maxRecDepth 20000 in
theorem ggX3_follower_X1_isTrue : GoodIn wsX3_follower wsX1_isTrue := goodIn_r _ [10] (by decide +kernel) (by decide +kernel)
set_option maxRecDepth 20000 in
theorem gX3_follower_X1_isTrue : GoodIn wsX3_follower (va_wsS RX3 110 yX1_isTrue wsX1_isTrue) := goodIn_app (goodIn_of _ (by decide +kernel)) ggX3_follower_X1_isTrue
theorem dX3_follower_0 : decode cX3_follower 0 = .ok (.aload_n 1, 1) := by decide +kernel
theorem dX3_follower_1 : decode cX3_follower 1 = .ok (.getfield 59, 3) := by decide +kernel
theorem dX3_follower_4 : decode cX3_follower 4 = .ok (.iconst 2, 1) := by decide +kernel
theorem dX3_follower_5 : decode cX3_follower 5 = .ok (.if_icmp .ge 10, 3) := by decide +kernel
theorem dX3_follower_8 : decode cX3_follower 8 = .ok (.aload_n 1, 1) := by decide +kernel
theorem dX3_follower_9 : decode cX3_follower 9 = .ok (.getfield 98, 3) := by decide +kernel
theorem dX3_follower_12 : decode cX3_follower 12 = .ok (.iconst 0, 1) := by decide +kernel
theorem dX3_follower_13 : decode cX3_follower 13 = .ok (.iaload, 1) := by decide +kernel
theorem dX3_follower_14 : decode cX3_follower 14 = .ok (.ireturn, 1) := by decide +kernel
theorem dX3_follower_15 : decode cX3_follower 15 = .ok (.aload_n 0, 1) := by decide +kernel
theorem dX3_follower_16 : decode cX3_follower 16 = .ok (.getfield 9, 3) := by decide +kernel
theorem dX3_follower_19 : decode cX3_follower 19 = .ok (.aload_n 1, 1) := by decide +kernel
theorem dX3_follower_20 : decode cX3_follower 20 = .ok (.getfield 101, 3) := by decide +kernel
theorem dX3_follower_23 : decode cX3_follower 23 = .ok (.iaload, 1) := by decide +kernel
theorem dX3_follower_24 : decode cX3_follower 24 = .ok (.aload_n 1, 1) := by decide +kernel
theorem dX3_follower_25 : decode cX3_follower 25 = .ok (.getfield 104, 3) := by decide +kernel
theorem dX3_follower_28 : decode cX3_follower 28 = .ok (.aload_n 0, 1) := by decide +kernel
theorem dX3_follower_29 : decode cX3_follower 29 = .ok (.getfield 9, 3) := by decide +kernel
theorem dX3_follower_32 : decode cX3_follower 32 = .ok (.aload_n 1, 1) := by decide +kernel
theorem dX3_follower_33 : decode cX3_follower 33 = .ok (.getfield 107, 3) := by decide +kernel
theorem dX3_follower_36 : decode cX3_follower 36 = .ok (.iaload, 1) := by decide +kernel
theorem dX3_follower_37 : decode cX3_follower 37 = .ok (.invokestatic 110, 3) := by decide +kernel
theorem dX3_follower_40 : decode cX3_follower 40 = .ok (.istore_n 2, 1) := by decide +kernel
theorem dX3_follower_41 : decode cX3_follower 41 = .ok (.iload_n 2, 1) := by decide +kernel
theorem dX3_follower_42 : decode cX3_follower 42 = .ok (.ifCond .eq 12, 3) := by decide +kernel
theorem dX3_follower_45 : decode cX3_follower 45 = .ok (.aload_n 1, 1) := by decide +kernel
theorem dX3_follower_46 : decode cX3_follower 46 = .ok (.getfield 98, 3) := by decide +kernel
theorem dX3_follower_49 : decode cX3_follower 49 = .ok (.iconst 0, 1) := by decide +kernel
theorem dX3_follower_50 : decode cX3_follower 50 = .ok (.iaload, 1) := by decide +kernel
theorem dX3_follower_51 : decode cX3_follower 51 = .ok (.goto 9, 3) := by decide +kernel
theorem dX3_follower_54 : decode cX3_follower 54 = .ok (.aload_n 1, 1) := by decide +kernel
theorem dX3_follower_55 : decode cX3_follower 55 = .ok (.getfield 98, 3) := by decide +kernel
theorem dX3_follower_58 : decode cX3_follower 58 = .ok (.iconst 1, 1) := by decide +kernel
theorem dX3_follower_59 : decode cX3_follower 59 = .ok (.iaload, 1) := by decide +kernel
theorem dX3_follower_60 : decode cX3_follower 60 = .ok (.ireturn, 1) := by decide +kernel
set_option maxRecDepth 20000 in
theorem ggX3_choose_J9_floorMod_f86c9 : GoodIn wsX3_choose wsJ9_floorMod_f86c9 := goodIn_r _ [7] (by decide +kernel) (by decide +kernel)
set_option maxRecDepth 20000 in
theorem gX3_choose_J9_floorMod_f86c9 : GoodIn wsX3_choose (va_wsS RX3 114 yJ9_floorMod_f86c9 wsJ9_floorMod_f86c9) := goodIn_app (goodIn_of _ (by decide +kernel)) ggX3_choose_J9_floorMod_f86c9
theorem dX3_choose_0 : decode cX3_choose 0 = .ok (.iload_n 2, 1) := by decide +kernel
theorem dX3_choose_1 : decode cX3_choose 1 = .ok (.i2l, 1) := by decide +kernel
theorem dX3_choose_2 : decode cX3_choose 2 = .ok (.iload_n 1, 1) := by decide +kernel
theorem dX3_choose_3 : decode cX3_choose 3 = .ok (.i2l, 1) := by decide +kernel
theorem dX3_choose_4 : decode cX3_choose 4 = .ok (.lsub, 1) := by decide +kernel
theorem dX3_choose_5 : decode cX3_choose 5 = .ok (.lconst 1, 1) := by decide +kernel
theorem dX3_choose_6 : decode cX3_choose 6 = .ok (.ladd, 1) := by decide +kernel
theorem dX3_choose_7 : decode cX3_choose 7 = .ok (.lstore_n 3, 1) := by decide +kernel
theorem dX3_choose_8 : decode cX3_choose 8 = .ok (.lload_n 3, 1) := by decide +kernel
theorem dX3_choose_9 : decode cX3_choose 9 = .ok (.lconst 0, 1) := by decide +kernel
theorem dX3_choose_10 : decode cX3_choose 10 = .ok (.lcmp, 1) := by decide +kernel
theorem dX3_choose_11 : decode cX3_choose 11 = .ok (.ifCond .le 14, 3) := by decide +kernel
theorem dX3_choose_14 : decode cX3_choose 14 = .ok (.aload_n 0, 1) := by decide +kernel
theorem dX3_choose_15 : decode cX3_choose 15 = .ok (.getfield 25, 3) := by decide +kernel
theorem dX3_choose_18 : decode cX3_choose 18 = .ok (.lload_n 3, 1) := by decide +kernel
theorem dX3_choose_19 : decode cX3_choose 19 = .ok (.invokestatic 114, 3) := by decide +kernel
theorem dX3_choose_22 : decode cX3_choose 22 = .ok (.goto 4, 3) := by decide +kernel
theorem dX3_choose_25 : decode cX3_choose 25 = .ok (.lconst 0, 1) := by decide +kernel
theorem dX3_choose_26 : decode cX3_choose 26 = .ok (.lstore 5, 2) := by decide +kernel
theorem dX3_choose_28 : decode cX3_choose 28 = .ok (.aload_n 0, 1) := by decide +kernel
theorem dX3_choose_29 : decode cX3_choose 29 = .ok (.aload_n 0, 1) := by decide +kernel
theorem dX3_choose_30 : decode cX3_choose 30 = .ok (.getfield 25, 3) := by decide +kernel
theorem dX3_choose_33 : decode cX3_choose 33 = .ok (.ldc2_w 120, 3) := by decide +kernel
theorem dX3_choose_36 : decode cX3_choose 36 = .ok (.lmul, 1) := by decide +kernel
theorem dX3_choose_37 : decode cX3_choose 37 = .ok (.ldc2_w 122, 3) := by decide +kernel
theorem dX3_choose_40 : decode cX3_choose 40 = .ok (.ladd, 1) := by decide +kernel
theorem dX3_choose_41 : decode cX3_choose 41 = .ok (.putfield 25, 3) := by decide +kernel
theorem dX3_choose_44 : decode cX3_choose 44 = .ok (.iload_n 1, 1) := by decide +kernel
theorem dX3_choose_45 : decode cX3_choose 45 = .ok (.i2l, 1) := by decide +kernel
theorem dX3_choose_46 : decode cX3_choose 46 = .ok (.lload 5, 2) := by decide +kernel
theorem dX3_choose_48 : decode cX3_choose 48 = .ok (.ladd, 1) := by decide +kernel
theorem dX3_choose_49 : decode cX3_choose 49 = .ok (.l2i, 1) := by decide +kernel
theorem dX3_choose_50 : decode cX3_choose 50 = .ok (.ireturn, 1) := by decide +kernel
set_option maxRecDepth 20000 in
theorem ggX4_init_X7_init : GoodIn wsX4_init wsX7_init := goodIn_r _ [12, 13, 2, 3, 14, 15, 16, 17, 18, 19, 20] (by decide +kernel) (by decide +kernel)
set_option maxRecDepth 20000 in
theorem gX4_init_X7_init_n11 : GoodIn wsX4_init (wsX7_init) := ggX4_init_X7_init
theorem dX4_init_0 : decode cX4_init 0 = .ok (.aload_n 0, 1) := by decide +kernel
theorem dX4_init_1 : decode cX4_init 1 = .ok (.invokespecial 3, 3) := by decide +kernel
theorem dX4_init_4 : decode cX4_init 4 = .ok (.aload_n 0, 1) := by decide +kernel
theorem dX4_init_5 : decode cX4_init 5 = .ok (.new 9, 3) := by decide +kernel
theorem dX4_init_8 : decode cX4_init 8 = .ok (.dup, 1) := by decide +kernel
theorem dX4_init_9 : decode cX4_init 9 = .ok (.invokespecial 11, 3) := by decide +kernel
theorem dX4_init_12 : decode cX4_init 12 = .ok (.putfield 12, 3) := by decide +kernel
theorem dX4_init_15 : decode cX4_init 15 = .ok (.aload_n 0, 1) := by decide +kernel
theorem dX4_init_16 : decode cX4_init 16 = .ok (.new 9, 3) := by decide +kernel
theorem dX4_init_19 : decode cX4_init 19 = .ok (.dup, 1) := by decide +kernel
theorem dX4_init_20 : decode cX4_init 20 = .ok (.invokespecial 11, 3) := by decide +kernel
theorem dX4_init_23 : decode cX4_init 23 = .ok (.putfield 18, 3) := by decide +kernel
theorem dX4_init_26 : decode cX4_init 26 = .ok (.aload_n 0, 1) := by decide +kernel
theorem dX4_init_27 : decode cX4_init 27 = .ok (.iconst 2, 1) := by decide +kernel
theorem dX4_init_28 : decode cX4_init 28 = .ok (.anewarray 9, 3) := by decide +kernel
theorem dX4_init_31 : decode cX4_init 31 = .ok (.putfield 21, 3) := by decide +kernel
theorem dX4_init_34 : decode cX4_init 34 = .ok (.aload_n 0, 1) := by decide +kernel
theorem dX4_init_35 : decode cX4_init 35 = .ok (.iconst 0, 1) := by decide +kernel
theorem dX4_init_36 : decode cX4_init 36 = .ok (.putfield 25, 3) := by decide +kernel
theorem dX4_init_39 : decode cX4_init 39 = .ok (.iconst 0, 1) := by decide +kernel
theorem dX4_init_40 : decode cX4_init 40 = .ok (.istore_n 1, 1) := by decide +kernel
theorem dX4_init_41 : decode cX4_init 41 = .ok (.iload_n 1, 1) := by decide +kernel
theorem dX4_init_42 : decode cX4_init 42 = .ok (.iconst 2, 1) := by decide +kernel
theorem dX4_init_43 : decode cX4_init 43 = .ok (.if_icmp .ge 22, 3) := by decide +kernel
theorem dX4_init_46 : decode cX4_init 46 = .ok (.aload_n 0, 1) := by decide +kernel
theorem dX4_init_47 : decode cX4_init 47 = .ok (.getfield 21, 3) := by decide +kernel
theorem dX4_init_50 : decode cX4_init 50 = .ok (.iload_n 1, 1) := by decide +kernel
theorem dX4_init_51 : decode cX4_init 51 = .ok (.new 9, 3) := by decide +kernel
theorem dX4_init_54 : decode cX4_init 54 = .ok (.dup, 1) := by decide +kernel
theorem dX4_init_55 : decode cX4_init 55 = .ok (.invokespecial 11, 3) := by decide +kernel
theorem dX4_init_58 : decode cX4_init 58 = .ok (.aastore, 1) := by decide +kernel
theorem dX4_init_59 : decode cX4_init 59 = .ok (.iinc 1 1, 3) := by decide +kernel
theorem dX4_init_62 : decode cX4_init 62 = .ok (.goto (-21), 3) := by decide +kernel
theorem dX4_init_65 : decode cX4_init 65 = .ok (.return_, 1) := by decide +kernel
theorem dX4_makeNone_0 : decode cX4_makeNone 0 = .ok (.aload_n 0, 1) := by decide +kernel
theorem dX4_makeNone_1 : decode cX4_makeNone 1 = .ok (.iconst 0, 1) := by decide +kernel
theorem dX4_makeNone_2 : decode cX4_makeNone 2 = .ok (.putfield 25, 3) := by decide +kernel
theorem dX4_makeNone_5 : decode cX4_makeNone 5 = .ok (.aload_n 0, 1) := by decide +kernel
theorem dX4_makeNone_6 : decode cX4_makeNone 6 = .ok (.getfield 12, 3) := by decide +kernel
theorem dX4_makeNone_9 : decode cX4_makeNone 9 = .ok (.iconst 1, 1) := by decide +kernel
theorem dX4_makeNone_10 : decode cX4_makeNone 10 = .ok (.putfield 29, 3) := by decide +kernel
theorem dX4_makeNone_13 : decode cX4_makeNone 13 = .ok (.aload_n 0, 1) := by decide +kernel
theorem dX4_makeNone_14 : decode cX4_makeNone 14 = .ok (.getfield 18, 3) := by decide +kernel
theorem dX4_makeNone_17 : decode cX4_makeNone 17 = .ok (.iconst 1, 1) := by decide +kernel
theorem dX4_makeNone_18 : decode cX4_makeNone 18 = .ok (.putfield 29, 3) := by decide +kernel
theorem dX4_makeNone_21 : decode cX4_makeNone 21 = .ok (.iconst 0, 1) := by decide +kernel
theorem dX4_makeNone_22 : decode cX4_makeNone 22 = .ok (.istore_n 1, 1) := by decide +kernel
theorem dX4_makeNone_23 : decode cX4_makeNone 23 = .ok (.iload_n 1, 1) := by decide +kernel
theorem dX4_makeNone_24 : decode cX4_makeNone 24 = .ok (.iconst 2, 1) := by decide +kernel
theorem dX4_makeNone_25 : decode cX4_makeNone 25 = .ok (.if_icmp .ge 19, 3) := by decide +kernel
theorem dX4_makeNone_28 : decode cX4_makeNone 28 = .ok (.aload_n 0, 1) := by decide +kernel
theorem dX4_makeNone_29 : decode cX4_makeNone 29 = .ok (.getfield 21, 3) := by decide +kernel
theorem dX4_makeNone_32 : decode cX4_makeNone 32 = .ok (.iload_n 1, 1) := by decide +kernel
theorem dX4_makeNone_33 : decode cX4_makeNone 33 = .ok (.aaload, 1) := by decide +kernel
theorem dX4_makeNone_34 : decode cX4_makeNone 34 = .ok (.iconst 1, 1) := by decide +kernel
theorem dX4_makeNone_35 : decode cX4_makeNone 35 = .ok (.putfield 29, 3) := by decide +kernel
theorem dX4_makeNone_38 : decode cX4_makeNone 38 = .ok (.iinc 1 1, 3) := by decide +kernel
theorem dX4_makeNone_41 : decode cX4_makeNone 41 = .ok (.goto (-18), 3) := by decide +kernel
theorem dX4_makeNone_44 : decode cX4_makeNone 44 = .ok (.return_, 1) := by decide +kernel
set_option maxRecDepth 20000 in
theorem ggX4_makeAnew_X7_become : GoodIn wsX4_makeAnew wsX7_become := goodIn_r _ [9, 10, 11, 12, 13, 14, 15, 16, 110, 111, 112] (by decide +kernel) (by decide +kernel)
set_option maxRecDepth 20000 in
theorem gX4_makeAnew_X7_become : GoodIn wsX4_makeAnew (wsV RX4 33 RX7 yX7_become wsX7_become) := goodIn_app (goodIn_of _ (by decide +kernel)) ggX4_makeAnew_X7_become
set_option maxRecDepth 20000 in
theorem ggX4_makeAnew_X2_applyTo : GoodIn wsX4_makeAnew wsX2_applyTo := goodIn_r _ [21, 22, 23, 24, 25, 26, 27, 28, 29, 30, 8, 31, 11, 16, 32, 33, 34, 35, 36, 37, 38, 39, 40, 41, 42, 43, 44, 45, 46, 47, 48, 49, 50, 51, 52, 53, 54, 55, 56, 110, 111, 112, 100, 101, 102, 103, 104, 105, 106, 107, 108, 109] (by decide +kernel) (by decide +kernel)
set_option maxRecDepth 20000 in
theorem gX4_makeAnew_X2_applyTo : GoodIn wsX4_makeAnew (wsV RX4 37 RX2 yX2_applyTo wsX2_applyTo) := goodIn_app (goodIn_of _ (by decide +kernel)) ggX4_makeAnew_X2_applyTo
set_option maxRecDepth 20000 in
theorem ggX4_makeAnew_X2_refineForEdge : GoodIn wsX4_makeAnew wsX2_refineForEdge := goodIn_r _ [60, 22, 61, 62, 63, 64, 65, 66, 67, 8, 68, 10, 69, 70, 45, 71, 72, 73, 74, 75, 11, 16, 36, 37, 38, 39, 40, 41, 42, 76, 77, 78, 79, 80, 29, 30, 31, 81, 82, 83, 84, 85, 86, 87, 88, 89, 90, 91, 92, 93, 94, 95, 110, 111, 112, 100, 101, 102, 103, 104, 105, 106, 107, 108, 109] (by decide +kernel) (by decide +kernel)
set_option maxRecDepth 20000 in
theorem gX4_makeAnew_X2_refineForEdge : GoodIn wsX4_makeAnew (wsV RX4 45 RX2 yX2_refineForEdge wsX2_refineForEdge) := goodIn_app (goodIn_of _ (by decide +kernel)) ggX4_makeAnew_X2_refineForEdge
theorem dX4_makeAnew_0 : decode cX4_makeAnew 0 = .ok (.aload_n 0, 1) := by decide +kernel
theorem dX4_makeAnew_1 : decode cX4_makeAnew 1 = .ok (.getfield 18, 3) := by decide +kernel
theorem dX4_makeAnew_4 : decode cX4_makeAnew 4 = .ok (.aload_n 0, 1) := by decide +kernel
theorem dX4_makeAnew_5 : decode cX4_makeAnew 5 = .ok (.getfield 12, 3) := by decide +kernel
theorem dX4_makeAnew_8 : decode cX4_makeAnew 8 = .ok (.invokevirtual 33, 3) := by decide +kernel
theorem dX4_makeAnew_11 : decode cX4_makeAnew 11 = .ok (.aload_n 1, 1) := by decide +kernel
theorem dX4_makeAnew_12 : decode cX4_makeAnew 12 = .ok (.aload_n 0, 1) := by decide +kernel
theorem dX4_makeAnew_13 : decode cX4_makeAnew 13 = .ok (.getfield 18, 3) := by decide +kernel
theorem dX4_makeAnew_16 : decode cX4_makeAnew 16 = .ok (.invokevirtual 37, 3) := by decide +kernel
theorem dX4_makeAnew_19 : decode cX4_makeAnew 19 = .ok (.iconst 0, 1) := by decide +kernel
theorem dX4_makeAnew_20 : decode cX4_makeAnew 20 = .ok (.istore_n 2, 1) := by decide +kernel
theorem dX4_makeAnew_21 : decode cX4_makeAnew 21 = .ok (.iload_n 2, 1) := by decide +kernel
theorem dX4_makeAnew_22 : decode cX4_makeAnew 22 = .ok (.aload_n 1, 1) := by decide +kernel
theorem dX4_makeAnew_23 : decode cX4_makeAnew 23 = .ok (.getfield 42, 3) := by decide +kernel
theorem dX4_makeAnew_26 : decode cX4_makeAnew 26 = .ok (.if_icmp .ge 33, 3) := by decide +kernel
theorem dX4_makeAnew_29 : decode cX4_makeAnew 29 = .ok (.aload_n 0, 1) := by decide +kernel
theorem dX4_makeAnew_30 : decode cX4_makeAnew 30 = .ok (.getfield 21, 3) := by decide +kernel
theorem dX4_makeAnew_33 : decode cX4_makeAnew 33 = .ok (.iload_n 2, 1) := by decide +kernel
theorem dX4_makeAnew_34 : decode cX4_makeAnew 34 = .ok (.aaload, 1) := by decide +kernel
theorem dX4_makeAnew_35 : decode cX4_makeAnew 35 = .ok (.aload_n 0, 1) := by decide +kernel
theorem dX4_makeAnew_36 : decode cX4_makeAnew 36 = .ok (.getfield 18, 3) := by decide +kernel
theorem dX4_makeAnew_39 : decode cX4_makeAnew 39 = .ok (.invokevirtual 33, 3) := by decide +kernel
theorem dX4_makeAnew_42 : decode cX4_makeAnew 42 = .ok (.aload_n 1, 1) := by decide +kernel
theorem dX4_makeAnew_43 : decode cX4_makeAnew 43 = .ok (.aload_n 0, 1) := by decide +kernel
theorem dX4_makeAnew_44 : decode cX4_makeAnew 44 = .ok (.getfield 21, 3) := by decide +kernel
theorem dX4_makeAnew_47 : decode cX4_makeAnew 47 = .ok (.iload_n 2, 1) := by decide +kernel
theorem dX4_makeAnew_48 : decode cX4_makeAnew 48 = .ok (.aaload, 1) := by decide +kernel
theorem dX4_makeAnew_49 : decode cX4_makeAnew 49 = .ok (.iload_n 2, 1) := by decide +kernel
theorem dX4_makeAnew_50 : decode cX4_makeAnew 50 = .ok (.invokevirtual 45, 3) := by decide +kernel
theorem dX4_makeAnew_53 : decode cX4_makeAnew 53 = .ok (.iinc 2 1, 3) := by decide +kernel
theorem dX4_makeAnew_56 : decode cX4_makeAnew 56 = .ok (.goto (-35), 3) := by decide +kernel
theorem dX4_makeAnew_59 : decode cX4_makeAnew 59 = .ok (.return_, 1) := by decide +kernel
theorem dX4_countDeadEdges_0 : decode cX4_countDeadEdges 0 = .ok (.iconst 0, 1) := by decide +kernel
theorem dX4_countDeadEdges_1 : decode cX4_countDeadEdges 1 = .ok (.istore_n 2, 1) := by decide +kernel
theorem dX4_countDeadEdges_2 : decode cX4_countDeadEdges 2 = .ok (.iconst 0, 1) := by decide +kernel
theorem dX4_countDeadEdges_3 : decode cX4_countDeadEdges 3 = .ok (.istore_n 3, 1) := by decide +kernel
theorem dX4_countDeadEdges_4 : decode cX4_countDeadEdges 4 = .ok (.aload_n 0, 1) := by decide +kernel
theorem dX4_countDeadEdges_5 : decode cX4_countDeadEdges 5 = .ok (.getfield 12, 3) := by decide +kernel
theorem dX4_countDeadEdges_8 : decode cX4_countDeadEdges 8 = .ok (.getfield 29, 3) := by decide +kernel
theorem dX4_countDeadEdges_11 : decode cX4_countDeadEdges 11 = .ok (.ifCond .ne 29, 3) := by decide +kernel
theorem dX4_countDeadEdges_14 : decode cX4_countDeadEdges 14 = .ok (.iload_n 3, 1) := by decide +kernel
theorem dX4_countDeadEdges_15 : decode cX4_countDeadEdges 15 = .ok (.iload_n 1, 1) := by decide +kernel
theorem dX4_countDeadEdges_16 : decode cX4_countDeadEdges 16 = .ok (.if_icmp .ge 24, 3) := by decide +kernel
theorem dX4_countDeadEdges_19 : decode cX4_countDeadEdges 19 = .ok (.aload_n 0, 1) := by decide +kernel
theorem dX4_countDeadEdges_20 : decode cX4_countDeadEdges 20 = .ok (.getfield 21, 3) := by decide +kernel
theorem dX4_countDeadEdges_23 : decode cX4_countDeadEdges 23 = .ok (.iload_n 3, 1) := by decide +kernel
theorem dX4_countDeadEdges_24 : decode cX4_countDeadEdges 24 = .ok (.aaload, 1) := by decide +kernel
theorem dX4_countDeadEdges_25 : decode cX4_countDeadEdges 25 = .ok (.getfield 29, 3) := by decide +kernel
theorem dX4_countDeadEdges_28 : decode cX4_countDeadEdges 28 = .ok (.ifCond .eq 6, 3) := by decide +kernel
theorem dX4_countDeadEdges_31 : decode cX4_countDeadEdges 31 = .ok (.iinc 2 1, 3) := by decide +kernel
theorem dX4_countDeadEdges_34 : decode cX4_countDeadEdges 34 = .ok (.iinc 3 1, 3) := by decide +kernel
theorem dX4_countDeadEdges_37 : decode cX4_countDeadEdges 37 = .ok (.goto (-33), 3) := by decide +kernel
theorem dX4_countDeadEdges_40 : decode cX4_countDeadEdges 40 = .ok (.iload_n 2, 1) := by decide +kernel
theorem dX4_countDeadEdges_41 : decode cX4_countDeadEdges 41 = .ok (.ireturn, 1) := by decide +kernel
set_option maxRecDepth 20000 in
theorem ggX5_init_X7_init : GoodIn wsX5_init wsX7_init := goodIn_r _ [15, 16, 2, 3, 17, 18, 19, 20, 37, 38, 39] (by decide +kernel) (by decide +kernel)
set_option maxRecDepth 20000 in
theorem gX5_init_X7_init_n19 : GoodIn wsX5_init (wsX7_init) := ggX5_init_X7_init
set_option maxRecDepth 20000 in
theorem ggX5_init_X2_init : GoodIn wsX5_init wsX2_init := goodIn_r _ [22, 23, 2, 3, 24, 18, 25, 26, 27, 28, 29, 30, 31, 32, 33, 40, 41, 42, 43, 44, 45, 46, 47, 48, 49] (by decide +kernel) (by decide +kernel)
set_option maxRecDepth 20000 in
theorem gX5_init_X2_init_n28 : GoodIn wsX5_init (wsX2_init) := ggX5_init_X2_init
theorem dX5_init_0 : decode cX5_init 0 = .ok (.aload_n 0, 1) := by decide +kernel
theorem dX5_init_1 : decode cX5_init 1 = .ok (.invokespecial 3, 3) := by decide +kernel
theorem dX5_init_4 : decode cX5_init 4 = .ok (.aload_n 0, 1) := by decide +kernel
theorem dX5_init_5 : decode cX5_init 5 = .ok (.bipush 16, 2) := by decide +kernel
theorem dX5_init_7 : decode cX5_init 7 = .ok (.anewarray 9, 3) := by decide +kernel
theorem dX5_init_10 : decode cX5_init 10 = .ok (.putfield 11, 3) := by decide +kernel
theorem dX5_init_13 : decode cX5_init 13 = .ok (.aload_n 0, 1) := by decide +kernel
theorem dX5_init_14 : decode cX5_init 14 = .ok (.new 17, 3) := by decide +kernel
theorem dX5_init_17 : decode cX5_init 17 = .ok (.dup, 1) := by decide +kernel
theorem dX5_init_18 : decode cX5_init 18 = .ok (.invokespecial 19, 3) := by decide +kernel
theorem dX5_init_21 : decode cX5_init 21 = .ok (.putfield 20, 3) := by decide +kernel
theorem dX5_init_24 : decode cX5_init 24 = .ok (.aload_n 0, 1) := by decide +kernel
theorem dX5_init_25 : decode cX5_init 25 = .ok (.iconst 1, 1) := by decide +kernel
theorem dX5_init_26 : decode cX5_init 26 = .ok (.putfield 24, 3) := by decide +kernel
theorem dX5_init_29 : decode cX5_init 29 = .ok (.iconst 0, 1) := by decide +kernel
theorem dX5_init_30 : decode cX5_init 30 = .ok (.istore_n 1, 1) := by decide +kernel
theorem dX5_init_31 : decode cX5_init 31 = .ok (.iload_n 1, 1) := by decide +kernel
theorem dX5_init_32 : decode cX5_init 32 = .ok (.bipush 16, 2) := by decide +kernel
theorem dX5_init_34 : decode cX5_init 34 = .ok (.if_icmp .ge 22, 3) := by decide +kernel
theorem dX5_init_37 : decode cX5_init 37 = .ok (.aload_n 0, 1) := by decide +kernel
theorem dX5_init_38 : decode cX5_init 38 = .ok (.getfield 11, 3) := by decide +kernel
theorem dX5_init_41 : decode cX5_init 41 = .ok (.iload_n 1, 1) := by decide +kernel
theorem dX5_init_42 : decode cX5_init 42 = .ok (.new 9, 3) := by decide +kernel
theorem dX5_init_45 : decode cX5_init 45 = .ok (.dup, 1) := by decide +kernel
theorem dX5_init_46 : decode cX5_init 46 = .ok (.invokespecial 28, 3) := by decide +kernel
theorem dX5_init_49 : decode cX5_init 49 = .ok (.aastore, 1) := by decide +kernel
theorem dX5_init_50 : decode cX5_init 50 = .ok (.iinc 1 1, 3) := by decide +kernel
theorem dX5_init_53 : decode cX5_init 53 = .ok (.goto (-22), 3) := by decide +kernel
theorem dX5_init_56 : decode cX5_init 56 = .ok (.aload_n 0, 1) := by decide +kernel
theorem dX5_init_57 : decode cX5_init 57 = .ok (.getfield 20, 3) := by decide +kernel
theorem dX5_init_60 : decode cX5_init 60 = .ok (.iconst 0, 1) := by decide +kernel
theorem dX5_init_61 : decode cX5_init 61 = .ok (.putfield 29, 3) := by decide +kernel
theorem dX5_init_64 : decode cX5_init 64 = .ok (.return_, 1) := by decide +kernel
theorem dX6_init_0 : decode cX6_init 0 = .ok (.aload_n 0, 1) := by decide +kernel
theorem dX6_init_1 : decode cX6_init 1 = .ok (.invokespecial 3, 3) := by decide +kernel
theorem dX6_init_4 : decode cX6_init 4 = .ok (.aload_n 0, 1) := by decide +kernel
theorem dX6_init_5 : decode cX6_init 5 = .ok (.iconst 2, 1) := by decide +kernel
theorem dX6_init_6 : decode cX6_init 6 = .ok (.putfield 9, 3) := by decide +kernel
theorem dX6_init_9 : decode cX6_init 9 = .ok (.aload_n 0, 1) := by decide +kernel
theorem dX6_init_10 : decode cX6_init 10 = .ok (.iconst 1, 1) := by decide +kernel
theorem dX6_init_11 : decode cX6_init 11 = .ok (.putfield 15, 3) := by decide +kernel
theorem dX6_init_14 : decode cX6_init 14 = .ok (.aload_n 0, 1) := by decide +kernel
theorem dX6_init_15 : decode cX6_init 15 = .ok (.iconst 0, 1) := by decide +kernel
theorem dX6_init_16 : decode cX6_init 16 = .ok (.putfield 18, 3) := by decide +kernel
theorem dX6_init_19 : decode cX6_init 19 = .ok (.aload_n 0, 1) := by decide +kernel
theorem dX6_init_20 : decode cX6_init 20 = .ok (.bipush 8, 2) := by decide +kernel
theorem dX6_init_22 : decode cX6_init 22 = .ok (.newarray .int, 2) := by decide +kernel
theorem dX6_init_24 : decode cX6_init 24 = .ok (.putfield 21, 3) := by decide +kernel
theorem dX6_init_27 : decode cX6_init 27 = .ok (.return_, 1) := by decide +kernel
theorem dX6_keepThreshold_0 : decode cX6_keepThreshold 0 = .ok (.iconst 0, 1) := by decide +kernel
theorem dX6_keepThreshold_1 : decode cX6_keepThreshold 1 = .ok (.istore_n 2, 1) := by decide +kernel
theorem dX6_keepThreshold_2 : decode cX6_keepThreshold 2 = .ok (.iload_n 2, 1) := by decide +kernel
theorem dX6_keepThreshold_3 : decode cX6_keepThreshold 3 = .ok (.aload_n 0, 1) := by decide +kernel
theorem dX6_keepThreshold_4 : decode cX6_keepThreshold 4 = .ok (.getfield 18, 3) := by decide +kernel
theorem dX6_keepThreshold_7 : decode cX6_keepThreshold 7 = .ok (.if_icmp .ge 20, 3) := by decide +kernel
theorem dX6_keepThreshold_10 : decode cX6_keepThreshold 10 = .ok (.aload_n 0, 1) := by decide +kernel
theorem dX6_keepThreshold_11 : decode cX6_keepThreshold 11 = .ok (.getfield 21, 3) := by decide +kernel
theorem dX6_keepThreshold_14 : decode cX6_keepThreshold 14 = .ok (.iload_n 2, 1) := by decide +kernel
theorem dX6_keepThreshold_15 : decode cX6_keepThreshold 15 = .ok (.iaload, 1) := by decide +kernel
theorem dX6_keepThreshold_16 : decode cX6_keepThreshold 16 = .ok (.iload_n 1, 1) := by decide +kernel
theorem dX6_keepThreshold_17 : decode cX6_keepThreshold 17 = .ok (.if_icmp .ne 4, 3) := by decide +kernel
theorem dX6_keepThreshold_20 : decode cX6_keepThreshold 20 = .ok (.return_, 1) := by decide +kernel
theorem dX6_keepThreshold_21 : decode cX6_keepThreshold 21 = .ok (.iinc 2 1, 3) := by decide +kernel
theorem dX6_keepThreshold_24 : decode cX6_keepThreshold 24 = .ok (.goto (-22), 3) := by decide +kernel
theorem dX6_keepThreshold_27 : decode cX6_keepThreshold 27 = .ok (.aload_n 0, 1) := by decide +kernel
theorem dX6_keepThreshold_28 : decode cX6_keepThreshold 28 = .ok (.getfield 18, 3) := by decide +kernel
theorem dX6_keepThreshold_31 : decode cX6_keepThreshold 31 = .ok (.bipush 8, 2) := by decide +kernel
theorem dX6_keepThreshold_33 : decode cX6_keepThreshold 33 = .ok (.if_icmp .ge 23, 3) := by decide +kernel
theorem dX6_keepThreshold_36 : decode cX6_keepThreshold 36 = .ok (.aload_n 0, 1) := by decide +kernel
theorem dX6_keepThreshold_37 : decode cX6_keepThreshold 37 = .ok (.getfield 21, 3) := by decide +kernel
theorem dX6_keepThreshold_40 : decode cX6_keepThreshold 40 = .ok (.aload_n 0, 1) := by decide +kernel
theorem dX6_keepThreshold_41 : decode cX6_keepThreshold 41 = .ok (.getfield 18, 3) := by decide +kernel
theorem dX6_keepThreshold_44 : decode cX6_keepThreshold 44 = .ok (.iload_n 1, 1) := by decide +kernel
theorem dX6_keepThreshold_45 : decode cX6_keepThreshold 45 = .ok (.iastore, 1) := by decide +kernel
theorem dX6_keepThreshold_46 : decode cX6_keepThreshold 46 = .ok (.aload_n 0, 1) := by decide +kernel
theorem dX6_keepThreshold_47 : decode cX6_keepThreshold 47 = .ok (.dup, 1) := by decide +kernel
theorem dX6_keepThreshold_48 : decode cX6_keepThreshold 48 = .ok (.getfield 18, 3) := by decide +kernel
theorem dX6_keepThreshold_51 : decode cX6_keepThreshold 51 = .ok (.iconst 1, 1) := by decide +kernel
theorem dX6_keepThreshold_52 : decode cX6_keepThreshold 52 = .ok (.iadd, 1) := by decide +kernel
theorem dX6_keepThreshold_53 : decode cX6_keepThreshold 53 = .ok (.putfield 18, 3) := by decide +kernel
theorem dX6_keepThreshold_56 : decode cX6_keepThreshold 56 = .ok (.return_, 1) := by decide +kernel
set_option maxRecDepth 20000 in
theorem ggX6_widen_X6_greatestUpTo : GoodIn wsX6_widen wsX6_greatestUpTo := goodIn_r _ [7, 8, 9, 10, 19, 20, 21, 22] (by decide +kernel) (by decide +kernel)
set_option maxRecDepth 20000 in
theorem gX6_widen_X6_greatestUpTo : GoodIn wsX6_widen (wsV RX6 30 RX6 yX6_greatestUpTo wsX6_greatestUpTo) := goodIn_app (goodIn_of _ (by decide +kernel)) ggX6_widen_X6_greatestUpTo
set_option maxRecDepth 20000 in
theorem ggX6_widen_X6_smallestFrom : GoodIn wsX6_widen wsX6_smallestFrom := goodIn_r _ [14, 15, 9, 10, 19, 20, 21, 22] (by decide +kernel) (by decide +kernel)
set_option maxRecDepth 20000 in
theorem gX6_widen_X6_smallestFrom : GoodIn wsX6_widen (wsV RX6 37 RX6 yX6_smallestFrom wsX6_smallestFrom) := goodIn_app (goodIn_of _ (by decide +kernel)) ggX6_widen_X6_smallestFrom
theorem dX6_widen_0 : decode cX6_widen 0 = .ok (.iconst 0, 1) := by decide +kernel
theorem dX6_widen_1 : decode cX6_widen 1 = .ok (.istore_n 3, 1) := by decide +kernel
theorem dX6_widen_2 : decode cX6_widen 2 = .ok (.iload_n 3, 1) := by decide +kernel
theorem dX6_widen_3 : decode cX6_widen 3 = .ok (.bipush 6, 2) := by decide +kernel
theorem dX6_widen_5 : decode cX6_widen 5 = .ok (.if_icmp .ge 71, 3) := by decide +kernel
theorem dX6_widen_8 : decode cX6_widen 8 = .ok (.aload_n 1, 1) := by decide +kernel
theorem dX6_widen_9 : decode cX6_widen 9 = .ok (.getfield 25, 3) := by decide +kernel
theorem dX6_widen_12 : decode cX6_widen 12 = .ok (.iload_n 3, 1) := by decide +kernel
theorem dX6_widen_13 : decode cX6_widen 13 = .ok (.iaload, 1) := by decide +kernel
theorem dX6_widen_14 : decode cX6_widen 14 = .ok (.aload_n 2, 1) := by decide +kernel
theorem dX6_widen_15 : decode cX6_widen 15 = .ok (.getfield 25, 3) := by decide +kernel
theorem dX6_widen_18 : decode cX6_widen 18 = .ok (.iload_n 3, 1) := by decide +kernel
theorem dX6_widen_19 : decode cX6_widen 19 = .ok (.iaload, 1) := by decide +kernel
theorem dX6_widen_20 : decode cX6_widen 20 = .ok (.if_icmp .ge 19, 3) := by decide +kernel
theorem dX6_widen_23 : decode cX6_widen 23 = .ok (.aload_n 1, 1) := by decide +kernel
theorem dX6_widen_24 : decode cX6_widen 24 = .ok (.getfield 25, 3) := by decide +kernel
theorem dX6_widen_27 : decode cX6_widen 27 = .ok (.iload_n 3, 1) := by decide +kernel
theorem dX6_widen_28 : decode cX6_widen 28 = .ok (.aload_n 0, 1) := by decide +kernel
theorem dX6_widen_29 : decode cX6_widen 29 = .ok (.aload_n 1, 1) := by decide +kernel
theorem dX6_widen_30 : decode cX6_widen 30 = .ok (.getfield 25, 3) := by decide +kernel
theorem dX6_widen_33 : decode cX6_widen 33 = .ok (.iload_n 3, 1) := by decide +kernel
theorem dX6_widen_34 : decode cX6_widen 34 = .ok (.iaload, 1) := by decide +kernel
theorem dX6_widen_35 : decode cX6_widen 35 = .ok (.invokevirtual 30, 3) := by decide +kernel
theorem dX6_widen_38 : decode cX6_widen 38 = .ok (.iastore, 1) := by decide +kernel
theorem dX6_widen_39 : decode cX6_widen 39 = .ok (.aload_n 1, 1) := by decide +kernel
theorem dX6_widen_40 : decode cX6_widen 40 = .ok (.getfield 34, 3) := by decide +kernel
theorem dX6_widen_43 : decode cX6_widen 43 = .ok (.iload_n 3, 1) := by decide +kernel
theorem dX6_widen_44 : decode cX6_widen 44 = .ok (.iaload, 1) := by decide +kernel
theorem dX6_widen_45 : decode cX6_widen 45 = .ok (.aload_n 2, 1) := by decide +kernel
theorem dX6_widen_46 : decode cX6_widen 46 = .ok (.getfield 34, 3) := by decide +kernel
theorem dX6_widen_49 : decode cX6_widen 49 = .ok (.iload_n 3, 1) := by decide +kernel
theorem dX6_widen_50 : decode cX6_widen 50 = .ok (.iaload, 1) := by decide +kernel
theorem dX6_widen_51 : decode cX6_widen 51 = .ok (.if_icmp .le 19, 3) := by decide +kernel
theorem dX6_widen_54 : decode cX6_widen 54 = .ok (.aload_n 1, 1) := by decide +kernel
theorem dX6_widen_55 : decode cX6_widen 55 = .ok (.getfield 34, 3) := by decide +kernel
theorem dX6_widen_58 : decode cX6_widen 58 = .ok (.iload_n 3, 1) := by decide +kernel
theorem dX6_widen_59 : decode cX6_widen 59 = .ok (.aload_n 0, 1) := by decide +kernel
theorem dX6_widen_60 : decode cX6_widen 60 = .ok (.aload_n 1, 1) := by decide +kernel
theorem dX6_widen_61 : decode cX6_widen 61 = .ok (.getfield 34, 3) := by decide +kernel
theorem dX6_widen_64 : decode cX6_widen 64 = .ok (.iload_n 3, 1) := by decide +kernel
theorem dX6_widen_65 : decode cX6_widen 65 = .ok (.iaload, 1) := by decide +kernel
theorem dX6_widen_66 : decode cX6_widen 66 = .ok (.invokevirtual 37, 3) := by decide +kernel
theorem dX6_widen_69 : decode cX6_widen 69 = .ok (.iastore, 1) := by decide +kernel
theorem dX6_widen_70 : decode cX6_widen 70 = .ok (.iinc 3 1, 3) := by decide +kernel
theorem dX6_widen_73 : decode cX6_widen 73 = .ok (.goto (-71), 3) := by decide +kernel
theorem dX6_widen_76 : decode cX6_widen 76 = .ok (.return_, 1) := by decide +kernel
theorem dX6_greatestUpTo_0 : decode cX6_greatestUpTo 0 = .ok (.ldc 40, 2) := by decide +kernel
theorem dX6_greatestUpTo_2 : decode cX6_greatestUpTo 2 = .ok (.istore_n 2, 1) := by decide +kernel
theorem dX6_greatestUpTo_3 : decode cX6_greatestUpTo 3 = .ok (.iconst 0, 1) := by decide +kernel
theorem dX6_greatestUpTo_4 : decode cX6_greatestUpTo 4 = .ok (.istore_n 3, 1) := by decide +kernel
theorem dX6_greatestUpTo_5 : decode cX6_greatestUpTo 5 = .ok (.iload_n 3, 1) := by decide +kernel
theorem dX6_greatestUpTo_6 : decode cX6_greatestUpTo 6 = .ok (.aload_n 0, 1) := by decide +kernel
theorem dX6_greatestUpTo_7 : decode cX6_greatestUpTo 7 = .ok (.getfield 18, 3) := by decide +kernel
theorem dX6_greatestUpTo_10 : decode cX6_greatestUpTo 10 = .ok (.if_icmp .ge 36, 3) := by decide +kernel
theorem dX6_greatestUpTo_13 : decode cX6_greatestUpTo 13 = .ok (.aload_n 0, 1) := by decide +kernel
theorem dX6_greatestUpTo_14 : decode cX6_greatestUpTo 14 = .ok (.getfield 21, 3) := by decide +kernel
theorem dX6_greatestUpTo_17 : decode cX6_greatestUpTo 17 = .ok (.iload_n 3, 1) := by decide +kernel
theorem dX6_greatestUpTo_18 : decode cX6_greatestUpTo 18 = .ok (.iaload, 1) := by decide +kernel
theorem dX6_greatestUpTo_19 : decode cX6_greatestUpTo 19 = .ok (.iload_n 1, 1) := by decide +kernel
theorem dX6_greatestUpTo_20 : decode cX6_greatestUpTo 20 = .ok (.if_icmp .gt 20, 3) := by decide +kernel
theorem dX6_greatestUpTo_23 : decode cX6_greatestUpTo 23 = .ok (.aload_n 0, 1) := by decide +kernel
theorem dX6_greatestUpTo_24 : decode cX6_greatestUpTo 24 = .ok (.getfield 21, 3) := by decide +kernel
theorem dX6_greatestUpTo_27 : decode cX6_greatestUpTo 27 = .ok (.iload_n 3, 1) := by decide +kernel
theorem dX6_greatestUpTo_28 : decode cX6_greatestUpTo 28 = .ok (.iaload, 1) := by decide +kernel
theorem dX6_greatestUpTo_29 : decode cX6_greatestUpTo 29 = .ok (.iload_n 2, 1) := by decide +kernel
theorem dX6_greatestUpTo_30 : decode cX6_greatestUpTo 30 = .ok (.if_icmp .le 10, 3) := by decide +kernel
theorem dX6_greatestUpTo_33 : decode cX6_greatestUpTo 33 = .ok (.aload_n 0, 1) := by decide +kernel
theorem dX6_greatestUpTo_34 : decode cX6_greatestUpTo 34 = .ok (.getfield 21, 3) := by decide +kernel
theorem dX6_greatestUpTo_37 : decode cX6_greatestUpTo 37 = .ok (.iload_n 3, 1) := by decide +kernel
theorem dX6_greatestUpTo_38 : decode cX6_greatestUpTo 38 = .ok (.iaload, 1) := by decide +kernel
theorem dX6_greatestUpTo_39 : decode cX6_greatestUpTo 39 = .ok (.istore_n 2, 1) := by decide +kernel
theorem dX6_greatestUpTo_40 : decode cX6_greatestUpTo 40 = .ok (.iinc 3 1, 3) := by decide +kernel
theorem dX6_greatestUpTo_43 : decode cX6_greatestUpTo 43 = .ok (.goto (-38), 3) := by decide +kernel
theorem dX6_greatestUpTo_46 : decode cX6_greatestUpTo 46 = .ok (.iload_n 2, 1) := by decide +kernel
theorem dX6_greatestUpTo_47 : decode cX6_greatestUpTo 47 = .ok (.ireturn, 1) := by decide +kernel
theorem dX6_smallestFrom_0 : decode cX6_smallestFrom 0 = .ok (.ldc 41, 2) := by decide +kernel
theorem dX6_smallestFrom_2 : decode cX6_smallestFrom 2 = .ok (.istore_n 2, 1) := by decide +kernel
theorem dX6_smallestFrom_3 : decode cX6_smallestFrom 3 = .ok (.iconst 0, 1) := by decide +kernel
theorem dX6_smallestFrom_4 : decode cX6_smallestFrom 4 = .ok (.istore_n 3, 1) := by decide +kernel
theorem dX6_smallestFrom_5 : decode cX6_smallestFrom 5 = .ok (.iload_n 3, 1) := by decide +kernel
theorem dX6_smallestFrom_6 : decode cX6_smallestFrom 6 = .ok (.aload_n 0, 1) := by decide +kernel
theorem dX6_smallestFrom_7 : decode cX6_smallestFrom 7 = .ok (.getfield 18, 3) := by decide +kernel
theorem dX6_smallestFrom_10 : decode cX6_smallestFrom 10 = .ok (.if_icmp .ge 36, 3) := by decide +kernel
theorem dX6_smallestFrom_13 : decode cX6_smallestFrom 13 = .ok (.aload_n 0, 1) := by decide +kernel
theorem dX6_smallestFrom_14 : decode cX6_smallestFrom 14 = .ok (.getfield 21, 3) := by decide +kernel
theorem dX6_smallestFrom_17 : decode cX6_smallestFrom 17 = .ok (.iload_n 3, 1) := by decide +kernel
theorem dX6_smallestFrom_18 : decode cX6_smallestFrom 18 = .ok (.iaload, 1) := by decide +kernel
theorem dX6_smallestFrom_19 : decode cX6_smallestFrom 19 = .ok (.iload_n 1, 1) := by decide +kernel
theorem dX6_smallestFrom_20 : decode cX6_smallestFrom 20 = .ok (.if_icmp .lt 20, 3) := by decide +kernel
theorem dX6_smallestFrom_23 : decode cX6_smallestFrom 23 = .ok (.aload_n 0, 1) := by decide +kernel
theorem dX6_smallestFrom_24 : decode cX6_smallestFrom 24 = .ok (.getfield 21, 3) := by decide +kernel
theorem dX6_smallestFrom_27 : decode cX6_smallestFrom 27 = .ok (.iload_n 3, 1) := by decide +kernel
theorem dX6_smallestFrom_28 : decode cX6_smallestFrom 28 = .ok (.iaload, 1) := by decide +kernel
theorem dX6_smallestFrom_29 : decode cX6_smallestFrom 29 = .ok (.iload_n 2, 1) := by decide +kernel
theorem dX6_smallestFrom_30 : decode cX6_smallestFrom 30 = .ok (.if_icmp .ge 10, 3) := by decide +kernel
theorem dX6_smallestFrom_33 : decode cX6_smallestFrom 33 = .ok (.aload_n 0, 1) := by decide +kernel
theorem dX6_smallestFrom_34 : decode cX6_smallestFrom 34 = .ok (.getfield 21, 3) := by decide +kernel
theorem dX6_smallestFrom_37 : decode cX6_smallestFrom 37 = .ok (.iload_n 3, 1) := by decide +kernel
theorem dX6_smallestFrom_38 : decode cX6_smallestFrom 38 = .ok (.iaload, 1) := by decide +kernel
theorem dX6_smallestFrom_39 : decode cX6_smallestFrom 39 = .ok (.istore_n 2, 1) := by decide +kernel
theorem dX6_smallestFrom_40 : decode cX6_smallestFrom 40 = .ok (.iinc 3 1, 3) := by decide +kernel
theorem dX6_smallestFrom_43 : decode cX6_smallestFrom 43 = .ok (.goto (-38), 3) := by decide +kernel
theorem dX6_smallestFrom_46 : decode cX6_smallestFrom 46 = .ok (.iload_n 2, 1) := by decide +kernel
theorem dX6_smallestFrom_47 : decode cX6_smallestFrom 47 = .ok (.ireturn, 1) := by decide +kernel
theorem dX7_init_0 : decode cX7_init 0 = .ok (.aload_n 0, 1) := by decide +kernel
theorem dX7_init_1 : decode cX7_init 1 = .ok (.invokespecial 3, 3) := by decide +kernel
theorem dX7_init_4 : decode cX7_init 4 = .ok (.aload_n 0, 1) := by decide +kernel
theorem dX7_init_5 : decode cX7_init 5 = .ok (.iconst 1, 1) := by decide +kernel
theorem dX7_init_6 : decode cX7_init 6 = .ok (.putfield 9, 3) := by decide +kernel
theorem dX7_init_9 : decode cX7_init 9 = .ok (.aload_n 0, 1) := by decide +kernel
theorem dX7_init_10 : decode cX7_init 10 = .ok (.bipush 6, 2) := by decide +kernel
theorem dX7_init_12 : decode cX7_init 12 = .ok (.newarray .int, 2) := by decide +kernel
theorem dX7_init_14 : decode cX7_init 14 = .ok (.putfield 15, 3) := by decide +kernel
theorem dX7_init_17 : decode cX7_init 17 = .ok (.aload_n 0, 1) := by decide +kernel
theorem dX7_init_18 : decode cX7_init 18 = .ok (.bipush 6, 2) := by decide +kernel
theorem dX7_init_20 : decode cX7_init 20 = .ok (.newarray .int, 2) := by decide +kernel
theorem dX7_init_22 : decode cX7_init 22 = .ok (.putfield 19, 3) := by decide +kernel
theorem dX7_init_25 : decode cX7_init 25 = .ok (.return_, 1) := by decide +kernel
theorem dX7_become_0 : decode cX7_become 0 = .ok (.aload_n 0, 1) := by decide +kernel
theorem dX7_become_1 : decode cX7_become 1 = .ok (.aload_n 1, 1) := by decide +kernel
theorem dX7_become_2 : decode cX7_become 2 = .ok (.getfield 9, 3) := by decide +kernel
theorem dX7_become_5 : decode cX7_become 5 = .ok (.putfield 9, 3) := by decide +kernel
theorem dX7_become_8 : decode cX7_become 8 = .ok (.aload_n 1, 1) := by decide +kernel
theorem dX7_become_9 : decode cX7_become 9 = .ok (.getfield 15, 3) := by decide +kernel
theorem dX7_become_12 : decode cX7_become 12 = .ok (.iconst 0, 1) := by decide +kernel
theorem dX7_become_13 : decode cX7_become 13 = .ok (.aload_n 0, 1) := by decide +kernel
theorem dX7_become_14 : decode cX7_become 14 = .ok (.getfield 15, 3) := by decide +kernel
theorem dX7_become_17 : decode cX7_become 17 = .ok (.iconst 0, 1) := by decide +kernel
theorem dX7_become_18 : decode cX7_become 18 = .ok (.bipush 6, 2) := by decide +kernel
theorem dX7_become_20 : decode cX7_become 20 = .ok (.invokestatic 22, 3) := by decide +kernel
theorem dX7_become_23 : decode cX7_become 23 = .ok (.aload_n 1, 1) := by decide +kernel
theorem dX7_become_24 : decode cX7_become 24 = .ok (.getfield 19, 3) := by decide +kernel
theorem dX7_become_27 : decode cX7_become 27 = .ok (.iconst 0, 1) := by decide +kernel
theorem dX7_become_28 : decode cX7_become 28 = .ok (.aload_n 0, 1) := by decide +kernel
theorem dX7_become_29 : decode cX7_become 29 = .ok (.getfield 19, 3) := by decide +kernel
theorem dX7_become_32 : decode cX7_become 32 = .ok (.iconst 0, 1) := by decide +kernel
theorem dX7_become_33 : decode cX7_become 33 = .ok (.bipush 6, 2) := by decide +kernel
theorem dX7_become_35 : decode cX7_become 35 = .ok (.invokestatic 22, 3) := by decide +kernel
theorem dX7_become_38 : decode cX7_become 38 = .ok (.return_, 1) := by decide +kernel
theorem dX7_differsFrom_0 : decode cX7_differsFrom 0 = .ok (.aload_n 0, 1) := by decide +kernel
theorem dX7_differsFrom_1 : decode cX7_differsFrom 1 = .ok (.getfield 9, 3) := by decide +kernel
theorem dX7_differsFrom_4 : decode cX7_differsFrom 4 = .ok (.ifCond .ne 10, 3) := by decide +kernel
theorem dX7_differsFrom_7 : decode cX7_differsFrom 7 = .ok (.aload_n 1, 1) := by decide +kernel
theorem dX7_differsFrom_8 : decode cX7_differsFrom 8 = .ok (.getfield 9, 3) := by decide +kernel
theorem dX7_differsFrom_11 : decode cX7_differsFrom 11 = .ok (.ifCond .eq 20, 3) := by decide +kernel
theorem dX7_differsFrom_14 : decode cX7_differsFrom 14 = .ok (.aload_n 0, 1) := by decide +kernel
theorem dX7_differsFrom_15 : decode cX7_differsFrom 15 = .ok (.getfield 9, 3) := by decide +kernel
theorem dX7_differsFrom_18 : decode cX7_differsFrom 18 = .ok (.aload_n 1, 1) := by decide +kernel
theorem dX7_differsFrom_19 : decode cX7_differsFrom 19 = .ok (.getfield 9, 3) := by decide +kernel
theorem dX7_differsFrom_22 : decode cX7_differsFrom 22 = .ok (.if_icmp .eq 7, 3) := by decide +kernel
theorem dX7_differsFrom_25 : decode cX7_differsFrom 25 = .ok (.iconst 1, 1) := by decide +kernel
theorem dX7_differsFrom_26 : decode cX7_differsFrom 26 = .ok (.goto 4, 3) := by decide +kernel
theorem dX7_differsFrom_29 : decode cX7_differsFrom 29 = .ok (.iconst 0, 1) := by decide +kernel
theorem dX7_differsFrom_30 : decode cX7_differsFrom 30 = .ok (.ireturn, 1) := by decide +kernel
theorem dX7_differsFrom_31 : decode cX7_differsFrom 31 = .ok (.iconst 0, 1) := by decide +kernel
theorem dX7_differsFrom_32 : decode cX7_differsFrom 32 = .ok (.istore_n 2, 1) := by decide +kernel
theorem dX7_differsFrom_33 : decode cX7_differsFrom 33 = .ok (.iload_n 2, 1) := by decide +kernel
theorem dX7_differsFrom_34 : decode cX7_differsFrom 34 = .ok (.bipush 6, 2) := by decide +kernel
theorem dX7_differsFrom_36 : decode cX7_differsFrom 36 = .ok (.if_icmp .ge 41, 3) := by decide +kernel
theorem dX7_differsFrom_39 : decode cX7_differsFrom 39 = .ok (.aload_n 0, 1) := by decide +kernel
theorem dX7_differsFrom_40 : decode cX7_differsFrom 40 = .ok (.getfield 15, 3) := by decide +kernel
theorem dX7_differsFrom_43 : decode cX7_differsFrom 43 = .ok (.iload_n 2, 1) := by decide +kernel
theorem dX7_differsFrom_44 : decode cX7_differsFrom 44 = .ok (.iaload, 1) := by decide +kernel
theorem dX7_differsFrom_45 : decode cX7_differsFrom 45 = .ok (.aload_n 1, 1) := by decide +kernel
theorem dX7_differsFrom_46 : decode cX7_differsFrom 46 = .ok (.getfield 15, 3) := by decide +kernel
theorem dX7_differsFrom_49 : decode cX7_differsFrom 49 = .ok (.iload_n 2, 1) := by decide +kernel
theorem dX7_differsFrom_50 : decode cX7_differsFrom 50 = .ok (.iaload, 1) := by decide +kernel
theorem dX7_differsFrom_51 : decode cX7_differsFrom 51 = .ok (.if_icmp .ne 18, 3) := by decide +kernel
theorem dX7_differsFrom_54 : decode cX7_differsFrom 54 = .ok (.aload_n 0, 1) := by decide +kernel
theorem dX7_differsFrom_55 : decode cX7_differsFrom 55 = .ok (.getfield 19, 3) := by decide +kernel
theorem dX7_differsFrom_58 : decode cX7_differsFrom 58 = .ok (.iload_n 2, 1) := by decide +kernel
theorem dX7_differsFrom_59 : decode cX7_differsFrom 59 = .ok (.iaload, 1) := by decide +kernel
theorem dX7_differsFrom_60 : decode cX7_differsFrom 60 = .ok (.aload_n 1, 1) := by decide +kernel
theorem dX7_differsFrom_61 : decode cX7_differsFrom 61 = .ok (.getfield 19, 3) := by decide +kernel
theorem dX7_differsFrom_64 : decode cX7_differsFrom 64 = .ok (.iload_n 2, 1) := by decide +kernel
theorem dX7_differsFrom_65 : decode cX7_differsFrom 65 = .ok (.iaload, 1) := by decide +kernel
theorem dX7_differsFrom_66 : decode cX7_differsFrom 66 = .ok (.if_icmp .eq 5, 3) := by decide +kernel
theorem dX7_differsFrom_69 : decode cX7_differsFrom 69 = .ok (.iconst 1, 1) := by decide +kernel
theorem dX7_differsFrom_70 : decode cX7_differsFrom 70 = .ok (.ireturn, 1) := by decide +kernel
theorem dX7_differsFrom_71 : decode cX7_differsFrom 71 = .ok (.iinc 2 1, 3) := by decide +kernel
theorem dX7_differsFrom_74 : decode cX7_differsFrom 74 = .ok (.goto (-41), 3) := by decide +kernel
theorem dX7_differsFrom_77 : decode cX7_differsFrom 77 = .ok (.iconst 0, 1) := by decide +kernel
theorem dX7_differsFrom_78 : decode cX7_differsFrom 78 = .ok (.ireturn, 1) := by decide +kernel
set_option maxRecDepth 20000 in
theorem ggX7_join_X7_become : GoodIn wsX7_join wsX7_become := goodIn_r _ [15, 1, 2, 16, 17, 18, 19, 7, 20, 21, 22] (by decide +kernel) (by decide +kernel)
set_option maxRecDepth 20000 in
theorem gX7_join_X7_become : GoodIn wsX7_join (wsV RX7 28 RX7 yX7_become wsX7_become) := goodIn_app (goodIn_of _ (by decide +kernel)) ggX7_join_X7_become
theorem dX7_join_0 : decode cX7_join 0 = .ok (.aload_n 1, 1) := by decide +kernel
theorem dX7_join_1 : decode cX7_join 1 = .ok (.getfield 9, 3) := by decide +kernel
theorem dX7_join_4 : decode cX7_join 4 = .ok (.ifCond .eq 4, 3) := by decide +kernel
theorem dX7_join_7 : decode cX7_join 7 = .ok (.return_, 1) := by decide +kernel
theorem dX7_join_8 : decode cX7_join 8 = .ok (.aload_n 0, 1) := by decide +kernel
theorem dX7_join_9 : decode cX7_join 9 = .ok (.getfield 9, 3) := by decide +kernel
theorem dX7_join_12 : decode cX7_join 12 = .ok (.ifCond .eq 9, 3) := by decide +kernel
theorem dX7_join_15 : decode cX7_join 15 = .ok (.aload_n 0, 1) := by decide +kernel
theorem dX7_join_16 : decode cX7_join 16 = .ok (.aload_n 1, 1) := by decide +kernel
theorem dX7_join_17 : decode cX7_join 17 = .ok (.invokevirtual 28, 3) := by decide +kernel
theorem dX7_join_20 : decode cX7_join 20 = .ok (.return_, 1) := by decide +kernel
theorem dX7_join_21 : decode cX7_join 21 = .ok (.iconst 0, 1) := by decide +kernel
theorem dX7_join_22 : decode cX7_join 22 = .ok (.istore_n 2, 1) := by decide +kernel
theorem dX7_join_23 : decode cX7_join 23 = .ok (.iload_n 2, 1) := by decide +kernel
theorem dX7_join_24 : decode cX7_join 24 = .ok (.bipush 6, 2) := by decide +kernel
theorem dX7_join_26 : decode cX7_join 26 = .ok (.if_icmp .ge 51, 3) := by decide +kernel
theorem dX7_join_29 : decode cX7_join 29 = .ok (.aload_n 0, 1) := by decide +kernel
theorem dX7_join_30 : decode cX7_join 30 = .ok (.getfield 15, 3) := by decide +kernel
theorem dX7_join_33 : decode cX7_join 33 = .ok (.iload_n 2, 1) := by decide +kernel
theorem dX7_join_34 : decode cX7_join 34 = .ok (.aload_n 0, 1) := by decide +kernel
theorem dX7_join_35 : decode cX7_join 35 = .ok (.getfield 15, 3) := by decide +kernel
theorem dX7_join_38 : decode cX7_join 38 = .ok (.iload_n 2, 1) := by decide +kernel
theorem dX7_join_39 : decode cX7_join 39 = .ok (.iaload, 1) := by decide +kernel
theorem dX7_join_40 : decode cX7_join 40 = .ok (.aload_n 1, 1) := by decide +kernel
theorem dX7_join_41 : decode cX7_join 41 = .ok (.getfield 15, 3) := by decide +kernel
theorem dX7_join_44 : decode cX7_join 44 = .ok (.iload_n 2, 1) := by decide +kernel
theorem dX7_join_45 : decode cX7_join 45 = .ok (.iaload, 1) := by decide +kernel
theorem dX7_join_46 : decode cX7_join 46 = .ok (.invokestatic 32, 3) := by decide +kernel
theorem dX7_join_49 : decode cX7_join 49 = .ok (.iastore, 1) := by decide +kernel
theorem dX7_join_50 : decode cX7_join 50 = .ok (.aload_n 0, 1) := by decide +kernel
theorem dX7_join_51 : decode cX7_join 51 = .ok (.getfield 19, 3) := by decide +kernel
theorem dX7_join_54 : decode cX7_join 54 = .ok (.iload_n 2, 1) := by decide +kernel
theorem dX7_join_55 : decode cX7_join 55 = .ok (.aload_n 0, 1) := by decide +kernel
theorem dX7_join_56 : decode cX7_join 56 = .ok (.getfield 19, 3) := by decide +kernel
theorem dX7_join_59 : decode cX7_join 59 = .ok (.iload_n 2, 1) := by decide +kernel
theorem dX7_join_60 : decode cX7_join 60 = .ok (.iaload, 1) := by decide +kernel
theorem dX7_join_61 : decode cX7_join 61 = .ok (.aload_n 1, 1) := by decide +kernel
theorem dX7_join_62 : decode cX7_join 62 = .ok (.getfield 19, 3) := by decide +kernel
theorem dX7_join_65 : decode cX7_join 65 = .ok (.iload_n 2, 1) := by decide +kernel
theorem dX7_join_66 : decode cX7_join 66 = .ok (.iaload, 1) := by decide +kernel
theorem dX7_join_67 : decode cX7_join 67 = .ok (.invokestatic 38, 3) := by decide +kernel
theorem dX7_join_70 : decode cX7_join 70 = .ok (.iastore, 1) := by decide +kernel
theorem dX7_join_71 : decode cX7_join 71 = .ok (.iinc 2 1, 3) := by decide +kernel
theorem dX7_join_74 : decode cX7_join 74 = .ok (.goto (-51), 3) := by decide +kernel
theorem dX7_join_77 : decode cX7_join 77 = .ok (.return_, 1) := by decide +kernel
theorem dX7_narrowTo_0 : decode cX7_narrowTo 0 = .ok (.aload_n 0, 1) := by decide +kernel
theorem dX7_narrowTo_1 : decode cX7_narrowTo 1 = .ok (.getfield 9, 3) := by decide +kernel
theorem dX7_narrowTo_4 : decode cX7_narrowTo 4 = .ok (.ifCond .ne 10, 3) := by decide +kernel
theorem dX7_narrowTo_7 : decode cX7_narrowTo 7 = .ok (.aload_n 1, 1) := by decide +kernel
theorem dX7_narrowTo_8 : decode cX7_narrowTo 8 = .ok (.getfield 9, 3) := by decide +kernel
theorem dX7_narrowTo_11 : decode cX7_narrowTo 11 = .ok (.ifCond .eq 9, 3) := by decide +kernel
theorem dX7_narrowTo_14 : decode cX7_narrowTo 14 = .ok (.aload_n 0, 1) := by decide +kernel
theorem dX7_narrowTo_15 : decode cX7_narrowTo 15 = .ok (.iconst 1, 1) := by decide +kernel
theorem dX7_narrowTo_16 : decode cX7_narrowTo 16 = .ok (.putfield 9, 3) := by decide +kernel
theorem dX7_narrowTo_19 : decode cX7_narrowTo 19 = .ok (.return_, 1) := by decide +kernel
theorem dX7_narrowTo_20 : decode cX7_narrowTo 20 = .ok (.iconst 0, 1) := by decide +kernel
theorem dX7_narrowTo_21 : decode cX7_narrowTo 21 = .ok (.istore_n 2, 1) := by decide +kernel
theorem dX7_narrowTo_22 : decode cX7_narrowTo 22 = .ok (.iload_n 2, 1) := by decide +kernel
theorem dX7_narrowTo_23 : decode cX7_narrowTo 23 = .ok (.bipush 6, 2) := by decide +kernel
theorem dX7_narrowTo_25 : decode cX7_narrowTo 25 = .ok (.if_icmp .ge 51, 3) := by decide +kernel
theorem dX7_narrowTo_28 : decode cX7_narrowTo 28 = .ok (.aload_n 0, 1) := by decide +kernel
theorem dX7_narrowTo_29 : decode cX7_narrowTo 29 = .ok (.getfield 15, 3) := by decide +kernel
theorem dX7_narrowTo_32 : decode cX7_narrowTo 32 = .ok (.iload_n 2, 1) := by decide +kernel
theorem dX7_narrowTo_33 : decode cX7_narrowTo 33 = .ok (.aload_n 0, 1) := by decide +kernel
theorem dX7_narrowTo_34 : decode cX7_narrowTo 34 = .ok (.getfield 15, 3) := by decide +kernel
theorem dX7_narrowTo_37 : decode cX7_narrowTo 37 = .ok (.iload_n 2, 1) := by decide +kernel
theorem dX7_narrowTo_38 : decode cX7_narrowTo 38 = .ok (.iaload, 1) := by decide +kernel
theorem dX7_narrowTo_39 : decode cX7_narrowTo 39 = .ok (.aload_n 1, 1) := by decide +kernel
theorem dX7_narrowTo_40 : decode cX7_narrowTo 40 = .ok (.getfield 15, 3) := by decide +kernel
theorem dX7_narrowTo_43 : decode cX7_narrowTo 43 = .ok (.iload_n 2, 1) := by decide +kernel
theorem dX7_narrowTo_44 : decode cX7_narrowTo 44 = .ok (.iaload, 1) := by decide +kernel
theorem dX7_narrowTo_45 : decode cX7_narrowTo 45 = .ok (.invokestatic 38, 3) := by decide +kernel
theorem dX7_narrowTo_48 : decode cX7_narrowTo 48 = .ok (.iastore, 1) := by decide +kernel
theorem dX7_narrowTo_49 : decode cX7_narrowTo 49 = .ok (.aload_n 0, 1) := by decide +kernel
theorem dX7_narrowTo_50 : decode cX7_narrowTo 50 = .ok (.getfield 19, 3) := by decide +kernel
theorem dX7_narrowTo_53 : decode cX7_narrowTo 53 = .ok (.iload_n 2, 1) := by decide +kernel
theorem dX7_narrowTo_54 : decode cX7_narrowTo 54 = .ok (.aload_n 0, 1) := by decide +kernel
theorem dX7_narrowTo_55 : decode cX7_narrowTo 55 = .ok (.getfield 19, 3) := by decide +kernel
theorem dX7_narrowTo_58 : decode cX7_narrowTo 58 = .ok (.iload_n 2, 1) := by decide +kernel
theorem dX7_narrowTo_59 : decode cX7_narrowTo 59 = .ok (.iaload, 1) := by decide +kernel
theorem dX7_narrowTo_60 : decode cX7_narrowTo 60 = .ok (.aload_n 1, 1) := by decide +kernel
theorem dX7_narrowTo_61 : decode cX7_narrowTo 61 = .ok (.getfield 19, 3) := by decide +kernel
theorem dX7_narrowTo_64 : decode cX7_narrowTo 64 = .ok (.iload_n 2, 1) := by decide +kernel
theorem dX7_narrowTo_65 : decode cX7_narrowTo 65 = .ok (.iaload, 1) := by decide +kernel
theorem dX7_narrowTo_66 : decode cX7_narrowTo 66 = .ok (.invokestatic 32, 3) := by decide +kernel
theorem dX7_narrowTo_69 : decode cX7_narrowTo 69 = .ok (.iastore, 1) := by decide +kernel
theorem dX7_narrowTo_70 : decode cX7_narrowTo 70 = .ok (.iinc 2 1, 3) := by decide +kernel
theorem dX7_narrowTo_73 : decode cX7_narrowTo 73 = .ok (.goto (-51), 3) := by decide +kernel
theorem dX7_narrowTo_76 : decode cX7_narrowTo 76 = .ok (.return_, 1) := by decide +kernel
set_option maxRecDepth 20000 in
theorem ggX7_countConstants_X7_isConstant : GoodIn wsX7_countConstants wsX7_isConstant := goodIn_r _ [6, 7, 8, 9, 10, 11] (by decide +kernel) (by decide +kernel)
set_option maxRecDepth 20000 in
theorem gX7_countConstants_X7_isConstant : GoodIn wsX7_countConstants (wsV RX7 41 RX7 yX7_isConstant wsX7_isConstant) := goodIn_app (goodIn_of _ (by decide +kernel)) ggX7_countConstants_X7_isConstant
theorem dX7_countConstants_0 : decode cX7_countConstants 0 = .ok (.iconst 0, 1) := by decide +kernel
theorem dX7_countConstants_1 : decode cX7_countConstants 1 = .ok (.istore_n 1, 1) := by decide +kernel
theorem dX7_countConstants_2 : decode cX7_countConstants 2 = .ok (.iconst 0, 1) := by decide +kernel
theorem dX7_countConstants_3 : decode cX7_countConstants 3 = .ok (.istore_n 2, 1) := by decide +kernel
theorem dX7_countConstants_4 : decode cX7_countConstants 4 = .ok (.aload_n 0, 1) := by decide +kernel
theorem dX7_countConstants_5 : decode cX7_countConstants 5 = .ok (.getfield 9, 3) := by decide +kernel
theorem dX7_countConstants_8 : decode cX7_countConstants 8 = .ok (.ifCond .ne 26, 3) := by decide +kernel
theorem dX7_countConstants_11 : decode cX7_countConstants 11 = .ok (.iload_n 2, 1) := by decide +kernel
theorem dX7_countConstants_12 : decode cX7_countConstants 12 = .ok (.bipush 6, 2) := by decide +kernel
theorem dX7_countConstants_14 : decode cX7_countConstants 14 = .ok (.if_icmp .ge 20, 3) := by decide +kernel
theorem dX7_countConstants_17 : decode cX7_countConstants 17 = .ok (.aload_n 0, 1) := by decide +kernel
theorem dX7_countConstants_18 : decode cX7_countConstants 18 = .ok (.iload_n 2, 1) := by decide +kernel
theorem dX7_countConstants_19 : decode cX7_countConstants 19 = .ok (.invokevirtual 41, 3) := by decide +kernel
theorem dX7_countConstants_22 : decode cX7_countConstants 22 = .ok (.ifCond .eq 6, 3) := by decide +kernel
theorem dX7_countConstants_25 : decode cX7_countConstants 25 = .ok (.iinc 1 1, 3) := by decide +kernel
theorem dX7_countConstants_28 : decode cX7_countConstants 28 = .ok (.iinc 2 1, 3) := by decide +kernel
theorem dX7_countConstants_31 : decode cX7_countConstants 31 = .ok (.goto (-27), 3) := by decide +kernel
theorem dX7_countConstants_34 : decode cX7_countConstants 34 = .ok (.iload_n 1, 1) := by decide +kernel
theorem dX7_countConstants_35 : decode cX7_countConstants 35 = .ok (.ireturn, 1) := by decide +kernel
theorem dX7_isConstant_0 : decode cX7_isConstant 0 = .ok (.aload_n 0, 1) := by decide +kernel
theorem dX7_isConstant_1 : decode cX7_isConstant 1 = .ok (.getfield 15, 3) := by decide +kernel
theorem dX7_isConstant_4 : decode cX7_isConstant 4 = .ok (.iload_n 1, 1) := by decide +kernel
theorem dX7_isConstant_5 : decode cX7_isConstant 5 = .ok (.iaload, 1) := by decide +kernel
theorem dX7_isConstant_6 : decode cX7_isConstant 6 = .ok (.aload_n 0, 1) := by decide +kernel
theorem dX7_isConstant_7 : decode cX7_isConstant 7 = .ok (.getfield 19, 3) := by decide +kernel
theorem dX7_isConstant_10 : decode cX7_isConstant 10 = .ok (.iload_n 1, 1) := by decide +kernel
theorem dX7_isConstant_11 : decode cX7_isConstant 11 = .ok (.iaload, 1) := by decide +kernel
theorem dX7_isConstant_12 : decode cX7_isConstant 12 = .ok (.if_icmp .ne 7, 3) := by decide +kernel
theorem dX7_isConstant_15 : decode cX7_isConstant 15 = .ok (.iconst 1, 1) := by decide +kernel
theorem dX7_isConstant_16 : decode cX7_isConstant 16 = .ok (.goto 4, 3) := by decide +kernel
theorem dX7_isConstant_19 : decode cX7_isConstant 19 = .ok (.iconst 0, 1) := by decide +kernel
theorem dX7_isConstant_20 : decode cX7_isConstant 20 = .ok (.ireturn, 1) := by decide +kernel
theorem dX7_setRange_0 : decode cX7_setRange 0 = .ok (.aload_n 0, 1) := by decide +kernel
theorem dX7_setRange_1 : decode cX7_setRange 1 = .ok (.getfield 15, 3) := by decide +kernel
theorem dX7_setRange_4 : decode cX7_setRange 4 = .ok (.iload_n 1, 1) := by decide +kernel
theorem dX7_setRange_5 : decode cX7_setRange 5 = .ok (.iload_n 2, 1) := by decide +kernel
theorem dX7_setRange_6 : decode cX7_setRange 6 = .ok (.iastore, 1) := by decide +kernel
theorem dX7_setRange_7 : decode cX7_setRange 7 = .ok (.aload_n 0, 1) := by decide +kernel
theorem dX7_setRange_8 : decode cX7_setRange 8 = .ok (.getfield 19, 3) := by decide +kernel
theorem dX7_setRange_11 : decode cX7_setRange 11 = .ok (.iload_n 1, 1) := by decide +kernel
theorem dX7_setRange_12 : decode cX7_setRange 12 = .ok (.iload_n 3, 1) := by decide +kernel
theorem dX7_setRange_13 : decode cX7_setRange 13 = .ok (.iastore, 1) := by decide +kernel
theorem dX7_setRange_14 : decode cX7_setRange 14 = .ok (.return_, 1) := by decide +kernel
set_option maxRecDepth 20000 in
theorem ggX7_assign_X1_outcome : GoodIn wsX7_assign wsX1_outcome := goodIn_r _ [13, 14, 4, 5, 6, 15, 8, 9, 16, 17, 18, 19, 20, 21, 22, 23] (by decide +kernel) (by decide +kernel)
set_option maxRecDepth 20000 in
theorem gX7_assign_X1_outcome : GoodIn wsX7_assign (va_wsS RX7 45 yX1_outcome wsX1_outcome) := goodIn_app (goodIn_of _ (by decide +kernel)) ggX7_assign_X1_outcome
theorem dX7_assign_0 : decode cX7_assign 0 = .ok (.iload_n 1, 1) := by decide +kernel
theorem dX7_assign_1 : decode cX7_assign 1 = .ok (.aload_n 0, 1) := by decide +kernel
theorem dX7_assign_2 : decode cX7_assign 2 = .ok (.getfield 15, 3) := by decide +kernel
theorem dX7_assign_5 : decode cX7_assign 5 = .ok (.iload_n 3, 1) := by decide +kernel
theorem dX7_assign_6 : decode cX7_assign 6 = .ok (.iaload, 1) := by decide +kernel
theorem dX7_assign_7 : decode cX7_assign 7 = .ok (.aload_n 0, 1) := by decide +kernel
theorem dX7_assign_8 : decode cX7_assign 8 = .ok (.getfield 15, 3) := by decide +kernel
theorem dX7_assign_11 : decode cX7_assign 11 = .ok (.iload 4, 2) := by decide +kernel
theorem dX7_assign_13 : decode cX7_assign 13 = .ok (.iaload, 1) := by decide +kernel
theorem dX7_assign_14 : decode cX7_assign 14 = .ok (.invokestatic 45, 3) := by decide +kernel
theorem dX7_assign_17 : decode cX7_assign 17 = .ok (.istore 5, 2) := by decide +kernel
theorem dX7_assign_19 : decode cX7_assign 19 = .ok (.iload_n 1, 1) := by decide +kernel
theorem dX7_assign_20 : decode cX7_assign 20 = .ok (.aload_n 0, 1) := by decide +kernel
theorem dX7_assign_21 : decode cX7_assign 21 = .ok (.getfield 15, 3) := by decide +kernel
theorem dX7_assign_24 : decode cX7_assign 24 = .ok (.iload_n 3, 1) := by decide +kernel
theorem dX7_assign_25 : decode cX7_assign 25 = .ok (.iaload, 1) := by decide +kernel
theorem dX7_assign_26 : decode cX7_assign 26 = .ok (.aload_n 0, 1) := by decide +kernel
theorem dX7_assign_27 : decode cX7_assign 27 = .ok (.getfield 19, 3) := by decide +kernel
theorem dX7_assign_30 : decode cX7_assign 30 = .ok (.iload 4, 2) := by decide +kernel
theorem dX7_assign_32 : decode cX7_assign 32 = .ok (.iaload, 1) := by decide +kernel
theorem dX7_assign_33 : decode cX7_assign 33 = .ok (.invokestatic 45, 3) := by decide +kernel
theorem dX7_assign_36 : decode cX7_assign 36 = .ok (.istore 6, 2) := by decide +kernel
theorem dX7_assign_38 : decode cX7_assign 38 = .ok (.iload_n 1, 1) := by decide +kernel
theorem dX7_assign_39 : decode cX7_assign 39 = .ok (.aload_n 0, 1) := by decide +kernel
theorem dX7_assign_40 : decode cX7_assign 40 = .ok (.getfield 19, 3) := by decide +kernel
theorem dX7_assign_43 : decode cX7_assign 43 = .ok (.iload_n 3, 1) := by decide +kernel
theorem dX7_assign_44 : decode cX7_assign 44 = .ok (.iaload, 1) := by decide +kernel
theorem dX7_assign_45 : decode cX7_assign 45 = .ok (.aload_n 0, 1) := by decide +kernel
theorem dX7_assign_46 : decode cX7_assign 46 = .ok (.getfield 15, 3) := by decide +kernel
theorem dX7_assign_49 : decode cX7_assign 49 = .ok (.iload 4, 2) := by decide +kernel
theorem dX7_assign_51 : decode cX7_assign 51 = .ok (.iaload, 1) := by decide +kernel
theorem dX7_assign_52 : decode cX7_assign 52 = .ok (.invokestatic 45, 3) := by decide +kernel
theorem dX7_assign_55 : decode cX7_assign 55 = .ok (.istore 7, 2) := by decide +kernel
theorem dX7_assign_57 : decode cX7_assign 57 = .ok (.iload_n 1, 1) := by decide +kernel
theorem dX7_assign_58 : decode cX7_assign 58 = .ok (.aload_n 0, 1) := by decide +kernel
theorem dX7_assign_59 : decode cX7_assign 59 = .ok (.getfield 19, 3) := by decide +kernel
theorem dX7_assign_62 : decode cX7_assign 62 = .ok (.iload_n 3, 1) := by decide +kernel
theorem dX7_assign_63 : decode cX7_assign 63 = .ok (.iaload, 1) := by decide +kernel
theorem dX7_assign_64 : decode cX7_assign 64 = .ok (.aload_n 0, 1) := by decide +kernel
theorem dX7_assign_65 : decode cX7_assign 65 = .ok (.getfield 19, 3) := by decide +kernel
theorem dX7_assign_68 : decode cX7_assign 68 = .ok (.iload 4, 2) := by decide +kernel
theorem dX7_assign_70 : decode cX7_assign 70 = .ok (.iaload, 1) := by decide +kernel
theorem dX7_assign_71 : decode cX7_assign 71 = .ok (.invokestatic 45, 3) := by decide +kernel
theorem dX7_assign_74 : decode cX7_assign 74 = .ok (.istore 8, 2) := by decide +kernel
theorem dX7_assign_76 : decode cX7_assign 76 = .ok (.aload_n 0, 1) := by decide +kernel
theorem dX7_assign_77 : decode cX7_assign 77 = .ok (.getfield 15, 3) := by decide +kernel
theorem dX7_assign_80 : decode cX7_assign 80 = .ok (.iload_n 2, 1) := by decide +kernel
theorem dX7_assign_81 : decode cX7_assign 81 = .ok (.iload 5, 2) := by decide +kernel
theorem dX7_assign_83 : decode cX7_assign 83 = .ok (.iload 6, 2) := by decide +kernel
theorem dX7_assign_85 : decode cX7_assign 85 = .ok (.invokestatic 32, 3) := by decide +kernel
theorem dX7_assign_88 : decode cX7_assign 88 = .ok (.iload 7, 2) := by decide +kernel
theorem dX7_assign_90 : decode cX7_assign 90 = .ok (.iload 8, 2) := by decide +kernel
theorem dX7_assign_92 : decode cX7_assign 92 = .ok (.invokestatic 32, 3) := by decide +kernel
theorem dX7_assign_95 : decode cX7_assign 95 = .ok (.invokestatic 32, 3) := by decide +kernel
theorem dX7_assign_98 : decode cX7_assign 98 = .ok (.iastore, 1) := by decide +kernel
theorem dX7_assign_99 : decode cX7_assign 99 = .ok (.aload_n 0, 1) := by decide +kernel
theorem dX7_assign_100 : decode cX7_assign 100 = .ok (.getfield 19, 3) := by decide +kernel
theorem dX7_assign_103 : decode cX7_assign 103 = .ok (.iload_n 2, 1) := by decide +kernel
theorem dX7_assign_104 : decode cX7_assign 104 = .ok (.iload 5, 2) := by decide +kernel
theorem dX7_assign_106 : decode cX7_assign 106 = .ok (.iload 6, 2) := by decide +kernel
theorem dX7_assign_108 : decode cX7_assign 108 = .ok (.invokestatic 38, 3) := by decide +kernel
theorem dX7_assign_111 : decode cX7_assign 111 = .ok (.iload 7, 2) := by decide +kernel
theorem dX7_assign_113 : decode cX7_assign 113 = .ok (.iload 8, 2) := by decide +kernel
theorem dX7_assign_115 : decode cX7_assign 115 = .ok (.invokestatic 38, 3) := by decide +kernel
theorem dX7_assign_118 : decode cX7_assign 118 = .ok (.invokestatic 38, 3) := by decide +kernel
theorem dX7_assign_121 : decode cX7_assign 121 = .ok (.iastore, 1) := by decide +kernel
theorem dX7_assign_122 : decode cX7_assign 122 = .ok (.return_, 1) := by decide +kernel
set_option maxRecDepth 20000 in
theorem ggX7_refine_X1_isTrue : GoodIn wsX7_refine wsX1_isTrue := goodIn_r _ [5] (by decide +kernel) (by decide +kernel)
set_option maxRecDepth 20000 in
theorem gX7_refine_X1_isTrue : GoodIn wsX7_refine (va_wsS RX7 51 yX1_isTrue wsX1_isTrue) := goodIn_app (goodIn_of _ (by decide +kernel)) ggX7_refine_X1_isTrue
set_option maxRecDepth 20000 in
theorem ggX7_refine_X7_keepOrdered : GoodIn wsX7_refine wsX7_keepOrdered := goodIn_r _ [10, 11, 12, 1, 13, 14, 15, 16, 17, 18, 19, 40, 41, 42] (by decide +kernel) (by decide +kernel)
set_option maxRecDepth 20000 in
theorem gX7_refine_X7_keepOrdered : GoodIn wsX7_refine (wsV RX7 55 RX7 yX7_keepOrdered wsX7_keepOrdered) := goodIn_app (goodIn_of _ (by decide +kernel)) ggX7_refine_X7_keepOrdered
set_option maxRecDepth 20000 in
theorem ggX7_refine_X7_keepEqual : GoodIn wsX7_refine wsX7_keepEqual := goodIn_r _ [23, 11, 17, 18, 15, 19, 12, 13, 14, 16, 1, 24, 25, 26, 9, 27, 40, 41, 42] (by decide +kernel) (by decide +kernel)
set_option maxRecDepth 20000 in
theorem gX7_refine_X7_keepEqual : GoodIn wsX7_refine (wsV RX7 59 RX7 yX7_keepEqual wsX7_keepEqual) := goodIn_app (goodIn_of _ (by decide +kernel)) ggX7_refine_X7_keepEqual
set_option maxRecDepth 20000 in
theorem ggX7_refine_X7_keepUnequal : GoodIn wsX7_refine wsX7_keepUnequal := goodIn_r _ [31, 11, 1, 32, 33, 34, 9, 35, 12, 36, 37, 38, 39, 40, 41, 42] (by decide +kernel) (by decide +kernel)
set_option maxRecDepth 20000 in
theorem gX7_refine_X7_keepUnequal : GoodIn wsX7_refine (wsV RX7 63 RX7 yX7_keepUnequal wsX7_keepUnequal) := goodIn_app (goodIn_of _ (by decide +kernel)) ggX7_refine_X7_keepUnequal
theorem dX7_refine_0 : decode cX7_refine 0 = .ok (.iload_n 1, 1) := by decide +kernel
theorem dX7_refine_1 : decode cX7_refine 1 = .ok (.iload_n 3, 1) := by decide +kernel
theorem dX7_refine_2 : decode cX7_refine 2 = .ok (.if_icmp .ne 22, 3) := by decide +kernel
theorem dX7_refine_5 : decode cX7_refine 5 = .ok (.aload_n 0, 1) := by decide +kernel
theorem dX7_refine_6 : decode cX7_refine 6 = .ok (.iconst 0, 1) := by decide +kernel
theorem dX7_refine_7 : decode cX7_refine 7 = .ok (.iload_n 2, 1) := by decide +kernel
theorem dX7_refine_8 : decode cX7_refine 8 = .ok (.iconst 0, 1) := by decide +kernel
theorem dX7_refine_9 : decode cX7_refine 9 = .ok (.invokestatic 51, 3) := by decide +kernel
theorem dX7_refine_12 : decode cX7_refine 12 = .ok (.ifCond .ne 7, 3) := by decide +kernel
theorem dX7_refine_15 : decode cX7_refine 15 = .ok (.iconst 1, 1) := by decide +kernel
theorem dX7_refine_16 : decode cX7_refine 16 = .ok (.goto 4, 3) := by decide +kernel
theorem dX7_refine_19 : decode cX7_refine 19 = .ok (.iconst 0, 1) := by decide +kernel
theorem dX7_refine_20 : decode cX7_refine 20 = .ok (.putfield 9, 3) := by decide +kernel
theorem dX7_refine_23 : decode cX7_refine 23 = .ok (.return_, 1) := by decide +kernel
theorem dX7_refine_24 : decode cX7_refine 24 = .ok (.iload_n 2, 1) := by decide +kernel
theorem dX7_refine_25 : decode cX7_refine 25 = .ok (.tableswitch 56 0 2 #[27, 37, 47], 27) := by decide +kernel
theorem dX7_refine_52 : decode cX7_refine 52 = .ok (.aload_n 0, 1) := by decide +kernel
theorem dX7_refine_53 : decode cX7_refine 53 = .ok (.iload_n 1, 1) := by decide +kernel
theorem dX7_refine_54 : decode cX7_refine 54 = .ok (.iload_n 3, 1) := by decide +kernel
theorem dX7_refine_55 : decode cX7_refine 55 = .ok (.iconst 1, 1) := by decide +kernel
theorem dX7_refine_56 : decode cX7_refine 56 = .ok (.invokevirtual 55, 3) := by decide +kernel
theorem dX7_refine_59 : decode cX7_refine 59 = .ok (.goto 28, 3) := by decide +kernel
theorem dX7_refine_62 : decode cX7_refine 62 = .ok (.aload_n 0, 1) := by decide +kernel
theorem dX7_refine_63 : decode cX7_refine 63 = .ok (.iload_n 1, 1) := by decide +kernel
theorem dX7_refine_64 : decode cX7_refine 64 = .ok (.iload_n 3, 1) := by decide +kernel
theorem dX7_refine_65 : decode cX7_refine 65 = .ok (.iconst 0, 1) := by decide +kernel
theorem dX7_refine_66 : decode cX7_refine 66 = .ok (.invokevirtual 55, 3) := by decide +kernel
theorem dX7_refine_69 : decode cX7_refine 69 = .ok (.goto 18, 3) := by decide +kernel
theorem dX7_refine_72 : decode cX7_refine 72 = .ok (.aload_n 0, 1) := by decide +kernel
theorem dX7_refine_73 : decode cX7_refine 73 = .ok (.iload_n 1, 1) := by decide +kernel
theorem dX7_refine_74 : decode cX7_refine 74 = .ok (.iload_n 3, 1) := by decide +kernel
theorem dX7_refine_75 : decode cX7_refine 75 = .ok (.invokevirtual 59, 3) := by decide +kernel
theorem dX7_refine_78 : decode cX7_refine 78 = .ok (.goto 9, 3) := by decide +kernel
theorem dX7_refine_81 : decode cX7_refine 81 = .ok (.aload_n 0, 1) := by decide +kernel
theorem dX7_refine_82 : decode cX7_refine 82 = .ok (.iload_n 1, 1) := by decide +kernel
theorem dX7_refine_83 : decode cX7_refine 83 = .ok (.iload_n 3, 1) := by decide +kernel
theorem dX7_refine_84 : decode cX7_refine 84 = .ok (.invokevirtual 63, 3) := by decide +kernel
theorem dX7_refine_87 : decode cX7_refine 87 = .ok (.return_, 1) := by decide +kernel
theorem dX7_keepOrdered_0 : decode cX7_keepOrdered 0 = .ok (.aload_n 0, 1) := by decide +kernel
theorem dX7_keepOrdered_1 : decode cX7_keepOrdered 1 = .ok (.getfield 15, 3) := by decide +kernel
theorem dX7_keepOrdered_4 : decode cX7_keepOrdered 4 = .ok (.iload_n 1, 1) := by decide +kernel
theorem dX7_keepOrdered_5 : decode cX7_keepOrdered 5 = .ok (.iaload, 1) := by decide +kernel
theorem dX7_keepOrdered_6 : decode cX7_keepOrdered 6 = .ok (.iload_n 3, 1) := by decide +kernel
theorem dX7_keepOrdered_7 : decode cX7_keepOrdered 7 = .ok (.iadd, 1) := by decide +kernel
theorem dX7_keepOrdered_8 : decode cX7_keepOrdered 8 = .ok (.aload_n 0, 1) := by decide +kernel
theorem dX7_keepOrdered_9 : decode cX7_keepOrdered 9 = .ok (.getfield 19, 3) := by decide +kernel
theorem dX7_keepOrdered_12 : decode cX7_keepOrdered 12 = .ok (.iload_n 2, 1) := by decide +kernel
theorem dX7_keepOrdered_13 : decode cX7_keepOrdered 13 = .ok (.iaload, 1) := by decide +kernel
theorem dX7_keepOrdered_14 : decode cX7_keepOrdered 14 = .ok (.if_icmp .le 9, 3) := by decide +kernel
theorem dX7_keepOrdered_17 : decode cX7_keepOrdered 17 = .ok (.aload_n 0, 1) := by decide +kernel
theorem dX7_keepOrdered_18 : decode cX7_keepOrdered 18 = .ok (.iconst 1, 1) := by decide +kernel
theorem dX7_keepOrdered_19 : decode cX7_keepOrdered 19 = .ok (.putfield 9, 3) := by decide +kernel
theorem dX7_keepOrdered_22 : decode cX7_keepOrdered 22 = .ok (.return_, 1) := by decide +kernel
theorem dX7_keepOrdered_23 : decode cX7_keepOrdered 23 = .ok (.aload_n 0, 1) := by decide +kernel
theorem dX7_keepOrdered_24 : decode cX7_keepOrdered 24 = .ok (.getfield 19, 3) := by decide +kernel
theorem dX7_keepOrdered_27 : decode cX7_keepOrdered 27 = .ok (.iload_n 1, 1) := by decide +kernel
theorem dX7_keepOrdered_28 : decode cX7_keepOrdered 28 = .ok (.aload_n 0, 1) := by decide +kernel
theorem dX7_keepOrdered_29 : decode cX7_keepOrdered 29 = .ok (.getfield 19, 3) := by decide +kernel
theorem dX7_keepOrdered_32 : decode cX7_keepOrdered 32 = .ok (.iload_n 1, 1) := by decide +kernel
theorem dX7_keepOrdered_33 : decode cX7_keepOrdered 33 = .ok (.iaload, 1) := by decide +kernel
theorem dX7_keepOrdered_34 : decode cX7_keepOrdered 34 = .ok (.aload_n 0, 1) := by decide +kernel
theorem dX7_keepOrdered_35 : decode cX7_keepOrdered 35 = .ok (.getfield 19, 3) := by decide +kernel
theorem dX7_keepOrdered_38 : decode cX7_keepOrdered 38 = .ok (.iload_n 2, 1) := by decide +kernel
theorem dX7_keepOrdered_39 : decode cX7_keepOrdered 39 = .ok (.iaload, 1) := by decide +kernel
theorem dX7_keepOrdered_40 : decode cX7_keepOrdered 40 = .ok (.iload_n 3, 1) := by decide +kernel
theorem dX7_keepOrdered_41 : decode cX7_keepOrdered 41 = .ok (.isub, 1) := by decide +kernel
theorem dX7_keepOrdered_42 : decode cX7_keepOrdered 42 = .ok (.invokestatic 32, 3) := by decide +kernel
theorem dX7_keepOrdered_45 : decode cX7_keepOrdered 45 = .ok (.iastore, 1) := by decide +kernel
theorem dX7_keepOrdered_46 : decode cX7_keepOrdered 46 = .ok (.aload_n 0, 1) := by decide +kernel
theorem dX7_keepOrdered_47 : decode cX7_keepOrdered 47 = .ok (.getfield 15, 3) := by decide +kernel
theorem dX7_keepOrdered_50 : decode cX7_keepOrdered 50 = .ok (.iload_n 2, 1) := by decide +kernel
theorem dX7_keepOrdered_51 : decode cX7_keepOrdered 51 = .ok (.aload_n 0, 1) := by decide +kernel
theorem dX7_keepOrdered_52 : decode cX7_keepOrdered 52 = .ok (.getfield 15, 3) := by decide +kernel
theorem dX7_keepOrdered_55 : decode cX7_keepOrdered 55 = .ok (.iload_n 2, 1) := by decide +kernel
theorem dX7_keepOrdered_56 : decode cX7_keepOrdered 56 = .ok (.iaload, 1) := by decide +kernel
theorem dX7_keepOrdered_57 : decode cX7_keepOrdered 57 = .ok (.aload_n 0, 1) := by decide +kernel
theorem dX7_keepOrdered_58 : decode cX7_keepOrdered 58 = .ok (.getfield 15, 3) := by decide +kernel
theorem dX7_keepOrdered_61 : decode cX7_keepOrdered 61 = .ok (.iload_n 1, 1) := by decide +kernel
theorem dX7_keepOrdered_62 : decode cX7_keepOrdered 62 = .ok (.iaload, 1) := by decide +kernel
theorem dX7_keepOrdered_63 : decode cX7_keepOrdered 63 = .ok (.iload_n 3, 1) := by decide +kernel
theorem dX7_keepOrdered_64 : decode cX7_keepOrdered 64 = .ok (.iadd, 1) := by decide +kernel
theorem dX7_keepOrdered_65 : decode cX7_keepOrdered 65 = .ok (.invokestatic 38, 3) := by decide +kernel
theorem dX7_keepOrdered_68 : decode cX7_keepOrdered 68 = .ok (.iastore, 1) := by decide +kernel
theorem dX7_keepOrdered_69 : decode cX7_keepOrdered 69 = .ok (.return_, 1) := by decide +kernel
set_option maxRecDepth 20000 in
theorem ggX7_keepEqual_X7_setRange : GoodIn wsX7_keepEqual wsX7_setRange := goodIn_r _ [15, 1, 6, 16, 17, 18] (by decide +kernel) (by decide +kernel)
set_option maxRecDepth 20000 in
theorem gX7_keepEqual_X7_setRange : GoodIn wsX7_keepEqual (wsV RX7 66 RX7 yX7_setRange wsX7_setRange) := goodIn_app (goodIn_of _ (by decide +kernel)) ggX7_keepEqual_X7_setRange
theorem dX7_keepEqual_0 : decode cX7_keepEqual 0 = .ok (.aload_n 0, 1) := by decide +kernel
theorem dX7_keepEqual_1 : decode cX7_keepEqual 1 = .ok (.getfield 15, 3) := by decide +kernel
theorem dX7_keepEqual_4 : decode cX7_keepEqual 4 = .ok (.iload_n 1, 1) := by decide +kernel
theorem dX7_keepEqual_5 : decode cX7_keepEqual 5 = .ok (.iaload, 1) := by decide +kernel
theorem dX7_keepEqual_6 : decode cX7_keepEqual 6 = .ok (.aload_n 0, 1) := by decide +kernel
theorem dX7_keepEqual_7 : decode cX7_keepEqual 7 = .ok (.getfield 15, 3) := by decide +kernel
theorem dX7_keepEqual_10 : decode cX7_keepEqual 10 = .ok (.iload_n 2, 1) := by decide +kernel
theorem dX7_keepEqual_11 : decode cX7_keepEqual 11 = .ok (.iaload, 1) := by decide +kernel
theorem dX7_keepEqual_12 : decode cX7_keepEqual 12 = .ok (.invokestatic 38, 3) := by decide +kernel
theorem dX7_keepEqual_15 : decode cX7_keepEqual 15 = .ok (.istore_n 3, 1) := by decide +kernel
theorem dX7_keepEqual_16 : decode cX7_keepEqual 16 = .ok (.aload_n 0, 1) := by decide +kernel
theorem dX7_keepEqual_17 : decode cX7_keepEqual 17 = .ok (.getfield 19, 3) := by decide +kernel
theorem dX7_keepEqual_20 : decode cX7_keepEqual 20 = .ok (.iload_n 1, 1) := by decide +kernel
theorem dX7_keepEqual_21 : decode cX7_keepEqual 21 = .ok (.iaload, 1) := by decide +kernel
theorem dX7_keepEqual_22 : decode cX7_keepEqual 22 = .ok (.aload_n 0, 1) := by decide +kernel
theorem dX7_keepEqual_23 : decode cX7_keepEqual 23 = .ok (.getfield 19, 3) := by decide +kernel
theorem dX7_keepEqual_26 : decode cX7_keepEqual 26 = .ok (.iload_n 2, 1) := by decide +kernel
theorem dX7_keepEqual_27 : decode cX7_keepEqual 27 = .ok (.iaload, 1) := by decide +kernel
theorem dX7_keepEqual_28 : decode cX7_keepEqual 28 = .ok (.invokestatic 32, 3) := by decide +kernel
theorem dX7_keepEqual_31 : decode cX7_keepEqual 31 = .ok (.istore 4, 2) := by decide +kernel
theorem dX7_keepEqual_33 : decode cX7_keepEqual 33 = .ok (.iload_n 3, 1) := by decide +kernel
theorem dX7_keepEqual_34 : decode cX7_keepEqual 34 = .ok (.iload 4, 2) := by decide +kernel
theorem dX7_keepEqual_36 : decode cX7_keepEqual 36 = .ok (.if_icmp .le 9, 3) := by decide +kernel
theorem dX7_keepEqual_39 : decode cX7_keepEqual 39 = .ok (.aload_n 0, 1) := by decide +kernel
theorem dX7_keepEqual_40 : decode cX7_keepEqual 40 = .ok (.iconst 1, 1) := by decide +kernel
theorem dX7_keepEqual_41 : decode cX7_keepEqual 41 = .ok (.putfield 9, 3) := by decide +kernel
theorem dX7_keepEqual_44 : decode cX7_keepEqual 44 = .ok (.return_, 1) := by decide +kernel
theorem dX7_keepEqual_45 : decode cX7_keepEqual 45 = .ok (.aload_n 0, 1) := by decide +kernel
theorem dX7_keepEqual_46 : decode cX7_keepEqual 46 = .ok (.iload_n 1, 1) := by decide +kernel
theorem dX7_keepEqual_47 : decode cX7_keepEqual 47 = .ok (.iload_n 3, 1) := by decide +kernel
theorem dX7_keepEqual_48 : decode cX7_keepEqual 48 = .ok (.iload 4, 2) := by decide +kernel
theorem dX7_keepEqual_50 : decode cX7_keepEqual 50 = .ok (.invokevirtual 66, 3) := by decide +kernel
theorem dX7_keepEqual_53 : decode cX7_keepEqual 53 = .ok (.aload_n 0, 1) := by decide +kernel
theorem dX7_keepEqual_54 : decode cX7_keepEqual 54 = .ok (.iload_n 2, 1) := by decide +kernel
theorem dX7_keepEqual_55 : decode cX7_keepEqual 55 = .ok (.iload_n 3, 1) := by decide +kernel
theorem dX7_keepEqual_56 : decode cX7_keepEqual 56 = .ok (.iload 4, 2) := by decide +kernel
theorem dX7_keepEqual_58 : decode cX7_keepEqual 58 = .ok (.invokevirtual 66, 3) := by decide +kernel
theorem dX7_keepEqual_61 : decode cX7_keepEqual 61 = .ok (.return_, 1) := by decide +kernel
set_option maxRecDepth 20000 in
theorem ggX7_keepUnequal_X7_isConstant : GoodIn wsX7_keepUnequal wsX7_isConstant := goodIn_r _ [7, 1, 8, 13, 14, 15] (by decide +kernel) (by decide +kernel)
set_option maxRecDepth 20000 in
theorem gX7_keepUnequal_X7_isConstant : GoodIn wsX7_keepUnequal (wsV RX7 41 RX7 yX7_isConstant wsX7_isConstant) := goodIn_app (goodIn_of _ (by decide +kernel)) ggX7_keepUnequal_X7_isConstant
set_option maxRecDepth 20000 in
theorem ggX7_keepUnequal_X7_cutOff : GoodIn wsX7_keepUnequal wsX7_cutOff := goodIn_r _ [12, 1, 8, 13, 14, 15] (by decide +kernel) (by decide +kernel)
set_option maxRecDepth 20000 in
theorem gX7_keepUnequal_X7_cutOff : GoodIn wsX7_keepUnequal (wsV RX7 69 RX7 yX7_cutOff wsX7_cutOff) := goodIn_app (goodIn_of _ (by decide +kernel)) ggX7_keepUnequal_X7_cutOff
theorem dX7_keepUnequal_0 : decode cX7_keepUnequal 0 = .ok (.aload_n 0, 1) := by decide +kernel
theorem dX7_keepUnequal_1 : decode cX7_keepUnequal 1 = .ok (.iload_n 1, 1) := by decide +kernel
theorem dX7_keepUnequal_2 : decode cX7_keepUnequal 2 = .ok (.invokevirtual 41, 3) := by decide +kernel
theorem dX7_keepUnequal_5 : decode cX7_keepUnequal 5 = .ok (.ifCond .eq 38, 3) := by decide +kernel
theorem dX7_keepUnequal_8 : decode cX7_keepUnequal 8 = .ok (.aload_n 0, 1) := by decide +kernel
theorem dX7_keepUnequal_9 : decode cX7_keepUnequal 9 = .ok (.iload_n 2, 1) := by decide +kernel
theorem dX7_keepUnequal_10 : decode cX7_keepUnequal 10 = .ok (.invokevirtual 41, 3) := by decide +kernel
theorem dX7_keepUnequal_13 : decode cX7_keepUnequal 13 = .ok (.ifCond .eq 30, 3) := by decide +kernel
theorem dX7_keepUnequal_16 : decode cX7_keepUnequal 16 = .ok (.aload_n 0, 1) := by decide +kernel
theorem dX7_keepUnequal_17 : decode cX7_keepUnequal 17 = .ok (.aload_n 0, 1) := by decide +kernel
theorem dX7_keepUnequal_18 : decode cX7_keepUnequal 18 = .ok (.getfield 15, 3) := by decide +kernel
theorem dX7_keepUnequal_21 : decode cX7_keepUnequal 21 = .ok (.iload_n 1, 1) := by decide +kernel
theorem dX7_keepUnequal_22 : decode cX7_keepUnequal 22 = .ok (.iaload, 1) := by decide +kernel
theorem dX7_keepUnequal_23 : decode cX7_keepUnequal 23 = .ok (.aload_n 0, 1) := by decide +kernel
theorem dX7_keepUnequal_24 : decode cX7_keepUnequal 24 = .ok (.getfield 15, 3) := by decide +kernel
theorem dX7_keepUnequal_27 : decode cX7_keepUnequal 27 = .ok (.iload_n 2, 1) := by decide +kernel
theorem dX7_keepUnequal_28 : decode cX7_keepUnequal 28 = .ok (.iaload, 1) := by decide +kernel
theorem dX7_keepUnequal_29 : decode cX7_keepUnequal 29 = .ok (.if_icmp .ne 7, 3) := by decide +kernel
theorem dX7_keepUnequal_32 : decode cX7_keepUnequal 32 = .ok (.iconst 1, 1) := by decide +kernel
theorem dX7_keepUnequal_33 : decode cX7_keepUnequal 33 = .ok (.goto 4, 3) := by decide +kernel
theorem dX7_keepUnequal_36 : decode cX7_keepUnequal 36 = .ok (.iconst 0, 1) := by decide +kernel
theorem dX7_keepUnequal_37 : decode cX7_keepUnequal 37 = .ok (.putfield 9, 3) := by decide +kernel
theorem dX7_keepUnequal_40 : decode cX7_keepUnequal 40 = .ok (.goto 44, 3) := by decide +kernel
theorem dX7_keepUnequal_43 : decode cX7_keepUnequal 43 = .ok (.aload_n 0, 1) := by decide +kernel
theorem dX7_keepUnequal_44 : decode cX7_keepUnequal 44 = .ok (.iload_n 1, 1) := by decide +kernel
theorem dX7_keepUnequal_45 : decode cX7_keepUnequal 45 = .ok (.invokevirtual 41, 3) := by decide +kernel
theorem dX7_keepUnequal_48 : decode cX7_keepUnequal 48 = .ok (.ifCond .eq 17, 3) := by decide +kernel
theorem dX7_keepUnequal_51 : decode cX7_keepUnequal 51 = .ok (.aload_n 0, 1) := by decide +kernel
theorem dX7_keepUnequal_52 : decode cX7_keepUnequal 52 = .ok (.iload_n 2, 1) := by decide +kernel
theorem dX7_keepUnequal_53 : decode cX7_keepUnequal 53 = .ok (.aload_n 0, 1) := by decide +kernel
theorem dX7_keepUnequal_54 : decode cX7_keepUnequal 54 = .ok (.getfield 15, 3) := by decide +kernel
theorem dX7_keepUnequal_57 : decode cX7_keepUnequal 57 = .ok (.iload_n 1, 1) := by decide +kernel
theorem dX7_keepUnequal_58 : decode cX7_keepUnequal 58 = .ok (.iaload, 1) := by decide +kernel
theorem dX7_keepUnequal_59 : decode cX7_keepUnequal 59 = .ok (.invokevirtual 69, 3) := by decide +kernel
theorem dX7_keepUnequal_62 : decode cX7_keepUnequal 62 = .ok (.goto 22, 3) := by decide +kernel
theorem dX7_keepUnequal_65 : decode cX7_keepUnequal 65 = .ok (.aload_n 0, 1) := by decide +kernel
theorem dX7_keepUnequal_66 : decode cX7_keepUnequal 66 = .ok (.iload_n 2, 1) := by decide +kernel
theorem dX7_keepUnequal_67 : decode cX7_keepUnequal 67 = .ok (.invokevirtual 41, 3) := by decide +kernel
theorem dX7_keepUnequal_70 : decode cX7_keepUnequal 70 = .ok (.ifCond .eq 14, 3) := by decide +kernel
theorem dX7_keepUnequal_73 : decode cX7_keepUnequal 73 = .ok (.aload_n 0, 1) := by decide +kernel
theorem dX7_keepUnequal_74 : decode cX7_keepUnequal 74 = .ok (.iload_n 1, 1) := by decide +kernel
theorem dX7_keepUnequal_75 : decode cX7_keepUnequal 75 = .ok (.aload_n 0, 1) := by decide +kernel
theorem dX7_keepUnequal_76 : decode cX7_keepUnequal 76 = .ok (.getfield 15, 3) := by decide +kernel
theorem dX7_keepUnequal_79 : decode cX7_keepUnequal 79 = .ok (.iload_n 2, 1) := by decide +kernel
theorem dX7_keepUnequal_80 : decode cX7_keepUnequal 80 = .ok (.iaload, 1) := by decide +kernel
theorem dX7_keepUnequal_81 : decode cX7_keepUnequal 81 = .ok (.invokevirtual 69, 3) := by decide +kernel
theorem dX7_keepUnequal_84 : decode cX7_keepUnequal 84 = .ok (.return_, 1) := by decide +kernel
theorem dX7_cutOff_0 : decode cX7_cutOff 0 = .ok (.aload_n 0, 1) := by decide +kernel
theorem dX7_cutOff_1 : decode cX7_cutOff 1 = .ok (.getfield 15, 3) := by decide +kernel
theorem dX7_cutOff_4 : decode cX7_cutOff 4 = .ok (.iload_n 1, 1) := by decide +kernel
theorem dX7_cutOff_5 : decode cX7_cutOff 5 = .ok (.iaload, 1) := by decide +kernel
theorem dX7_cutOff_6 : decode cX7_cutOff 6 = .ok (.iload_n 2, 1) := by decide +kernel
theorem dX7_cutOff_7 : decode cX7_cutOff 7 = .ok (.if_icmp .ne 15, 3) := by decide +kernel
theorem dX7_cutOff_10 : decode cX7_cutOff 10 = .ok (.aload_n 0, 1) := by decide +kernel
theorem dX7_cutOff_11 : decode cX7_cutOff 11 = .ok (.getfield 15, 3) := by decide +kernel
theorem dX7_cutOff_14 : decode cX7_cutOff 14 = .ok (.iload_n 1, 1) := by decide +kernel
theorem dX7_cutOff_15 : decode cX7_cutOff 15 = .ok (.iload_n 2, 1) := by decide +kernel
theorem dX7_cutOff_16 : decode cX7_cutOff 16 = .ok (.iconst 1, 1) := by decide +kernel
theorem dX7_cutOff_17 : decode cX7_cutOff 17 = .ok (.iadd, 1) := by decide +kernel
theorem dX7_cutOff_18 : decode cX7_cutOff 18 = .ok (.iastore, 1) := by decide +kernel
theorem dX7_cutOff_19 : decode cX7_cutOff 19 = .ok (.goto 22, 3) := by decide +kernel
theorem dX7_cutOff_22 : decode cX7_cutOff 22 = .ok (.aload_n 0, 1) := by decide +kernel
theorem dX7_cutOff_23 : decode cX7_cutOff 23 = .ok (.getfield 19, 3) := by decide +kernel
theorem dX7_cutOff_26 : decode cX7_cutOff 26 = .ok (.iload_n 1, 1) := by decide +kernel
theorem dX7_cutOff_27 : decode cX7_cutOff 27 = .ok (.iaload, 1) := by decide +kernel
theorem dX7_cutOff_28 : decode cX7_cutOff 28 = .ok (.iload_n 2, 1) := by decide +kernel
theorem dX7_cutOff_29 : decode cX7_cutOff 29 = .ok (.if_icmp .ne 12, 3) := by decide +kernel
theorem dX7_cutOff_32 : decode cX7_cutOff 32 = .ok (.aload_n 0, 1) := by decide +kernel
theorem dX7_cutOff_33 : decode cX7_cutOff 33 = .ok (.getfield 19, 3) := by decide +kernel
theorem dX7_cutOff_36 : decode cX7_cutOff 36 = .ok (.iload_n 1, 1) := by decide +kernel
theorem dX7_cutOff_37 : decode cX7_cutOff 37 = .ok (.iload_n 2, 1) := by decide +kernel
theorem dX7_cutOff_38 : decode cX7_cutOff 38 = .ok (.iconst 1, 1) := by decide +kernel
theorem dX7_cutOff_39 : decode cX7_cutOff 39 = .ok (.isub, 1) := by decide +kernel
theorem dX7_cutOff_40 : decode cX7_cutOff 40 = .ok (.iastore, 1) := by decide +kernel
theorem dX7_cutOff_41 : decode cX7_cutOff 41 = .ok (.return_, 1) := by decide +kernel
set_option maxRecDepth 20000 in
theorem ggX8_init_X5_init : GoodIn wsX8_init wsX5_init := goodIn_r _ [23, 24, 2, 3, 25, 26, 27, 28, 29, 30, 31, 32, 33, 34, 35, 36, 37, 38, 39, 40, 41, 42, 43, 44, 45, 46, 47, 48, 49, 50, 51, 52, 53, 54, 90, 91, 92, 110, 111, 112, 113, 114, 115, 116, 117, 118, 119, 120, 121, 122] (by decide +kernel) (by decide +kernel)
set_option maxRecDepth 20000 in
theorem gX8_init_X5_init : GoodIn wsX8_init (wsX5_init) := ggX8_init_X5_init
set_option maxRecDepth 20000 in
theorem ggX8_init_X6_init : GoodIn wsX8_init wsX6_init := goodIn_r _ [56, 57, 2, 3, 58, 59, 60, 39, 61, 98, 99, 100, 101] (by decide +kernel) (by decide +kernel)
set_option maxRecDepth 20000 in
theorem gX8_init_X6_init_n18 : GoodIn wsX8_init (wsX6_init) := ggX8_init_X6_init
set_option maxRecDepth 20000 in
theorem ggX8_init_X0_init : GoodIn wsX8_init wsX0_init := goodIn_r _ [64, 65, 2, 3, 66, 67, 68, 28, 29, 69, 70, 71, 72, 35, 36, 37, 38, 39, 40, 41, 73, 74, 75, 76, 77, 78, 79, 80, 81, 102, 103, 104, 110, 111, 112, 123, 124, 125, 126] (by decide +kernel) (by decide +kernel)
set_option maxRecDepth 20000 in
theorem gX8_init_X0_init : GoodIn wsX8_init (wsX0_init) := ggX8_init_X0_init
set_option maxRecDepth 20000 in
theorem ggX8_init_X3_init : GoodIn wsX8_init wsX3_init := goodIn_r _ [83, 84, 2, 3, 39, 85, 86, 87, 88, 89, 105, 106, 107, 108, 109] (by decide +kernel) (by decide +kernel)
set_option maxRecDepth 20000 in
theorem gX8_init_X3_init_n32 : GoodIn wsX8_init (wsX3_init) := ggX8_init_X3_init
theorem dX8_init_0 : decode cX8_init 0 = .ok (.aload_n 0, 1) := by decide +kernel
theorem dX8_init_1 : decode cX8_init 1 = .ok (.invokespecial 1, 3) := by decide +kernel
theorem dX8_init_4 : decode cX8_init 4 = .ok (.aload_n 0, 1) := by decide +kernel
theorem dX8_init_5 : decode cX8_init 5 = .ok (.new 7, 3) := by decide +kernel
theorem dX8_init_8 : decode cX8_init 8 = .ok (.dup, 1) := by decide +kernel
theorem dX8_init_9 : decode cX8_init 9 = .ok (.invokespecial 9, 3) := by decide +kernel
theorem dX8_init_12 : decode cX8_init 12 = .ok (.putfield 10, 3) := by decide +kernel
theorem dX8_init_15 : decode cX8_init 15 = .ok (.aload_n 0, 1) := by decide +kernel
theorem dX8_init_16 : decode cX8_init 16 = .ok (.new 16, 3) := by decide +kernel
theorem dX8_init_19 : decode cX8_init 19 = .ok (.dup, 1) := by decide +kernel
theorem dX8_init_20 : decode cX8_init 20 = .ok (.invokespecial 18, 3) := by decide +kernel
theorem dX8_init_23 : decode cX8_init 23 = .ok (.putfield 19, 3) := by decide +kernel
theorem dX8_init_26 : decode cX8_init 26 = .ok (.aload_n 0, 1) := by decide +kernel
theorem dX8_init_27 : decode cX8_init 27 = .ok (.new 23, 3) := by decide +kernel
theorem dX8_init_30 : decode cX8_init 30 = .ok (.dup, 1) := by decide +kernel
theorem dX8_init_31 : decode cX8_init 31 = .ok (.invokespecial 25, 3) := by decide +kernel
theorem dX8_init_34 : decode cX8_init 34 = .ok (.putfield 26, 3) := by decide +kernel
theorem dX8_init_37 : decode cX8_init 37 = .ok (.aload_n 0, 1) := by decide +kernel
theorem dX8_init_38 : decode cX8_init 38 = .ok (.new 30, 3) := by decide +kernel
theorem dX8_init_41 : decode cX8_init 41 = .ok (.dup, 1) := by decide +kernel
theorem dX8_init_42 : decode cX8_init 42 = .ok (.invokespecial 32, 3) := by decide +kernel
theorem dX8_init_45 : decode cX8_init 45 = .ok (.putfield 33, 3) := by decide +kernel
theorem dX8_init_48 : decode cX8_init 48 = .ok (.aload_n 0, 1) := by decide +kernel
theorem dX8_init_49 : decode cX8_init 49 = .ok (.iconst 0, 1) := by decide +kernel
theorem dX8_init_50 : decode cX8_init 50 = .ok (.putfield 37, 3) := by decide +kernel
theorem dX8_init_53 : decode cX8_init 53 = .ok (.return_, 1) := by decide +kernel
theorem dX8_addBlock_0 : decode cX8_addBlock 0 = .ok (.aload_n 0, 1) := by decide +kernel
theorem dX8_addBlock_1 : decode cX8_addBlock 1 = .ok (.getfield 10, 3) := by decide +kernel
theorem dX8_addBlock_4 : decode cX8_addBlock 4 = .ok (.getfield 41, 3) := by decide +kernel
theorem dX8_addBlock_7 : decode cX8_addBlock 7 = .ok (.bipush 16, 2) := by decide +kernel
theorem dX8_addBlock_9 : decode cX8_addBlock 9 = .ok (.if_icmp .lt 13, 3) := by decide +kernel
theorem dX8_addBlock_12 : decode cX8_addBlock 12 = .ok (.new 45, 3) := by decide +kernel
theorem dX8_addBlock_15 : decode cX8_addBlock 15 = .ok (.dup, 1) := by decide +kernel
theorem dX8_addBlock_16 : decode cX8_addBlock 16 = .ok (.ldc 47, 2) := by decide +kernel
theorem dX8_addBlock_18 : decode cX8_addBlock 18 = .ok (.invokespecial 49, 3) := by decide +kernel
theorem dX8_addBlock_21 : decode cX8_addBlock 21 = .ok (.athrow, 1) := by decide +kernel
theorem dX8_addBlock_22 : decode cX8_addBlock 22 = .ok (.aload_n 0, 1) := by decide +kernel
theorem dX8_addBlock_23 : decode cX8_addBlock 23 = .ok (.iconst 0, 1) := by decide +kernel
theorem dX8_addBlock_24 : decode cX8_addBlock 24 = .ok (.putfield 37, 3) := by decide +kernel
theorem dX8_addBlock_27 : decode cX8_addBlock 27 = .ok (.aload_n 0, 1) := by decide +kernel
theorem dX8_addBlock_28 : decode cX8_addBlock 28 = .ok (.getfield 10, 3) := by decide +kernel
theorem dX8_addBlock_31 : decode cX8_addBlock 31 = .ok (.dup, 1) := by decide +kernel
theorem dX8_addBlock_32 : decode cX8_addBlock 32 = .ok (.getfield 41, 3) := by decide +kernel
theorem dX8_addBlock_35 : decode cX8_addBlock 35 = .ok (.iconst 1, 1) := by decide +kernel
theorem dX8_addBlock_36 : decode cX8_addBlock 36 = .ok (.iadd, 1) := by decide +kernel
theorem dX8_addBlock_37 : decode cX8_addBlock 37 = .ok (.putfield 41, 3) := by decide +kernel
theorem dX8_addBlock_40 : decode cX8_addBlock 40 = .ok (.aload_n 0, 1) := by decide +kernel
theorem dX8_addBlock_41 : decode cX8_addBlock 41 = .ok (.getfield 10, 3) := by decide +kernel
theorem dX8_addBlock_44 : decode cX8_addBlock 44 = .ok (.getfield 41, 3) := by decide +kernel
theorem dX8_addBlock_47 : decode cX8_addBlock 47 = .ok (.iconst 1, 1) := by decide +kernel
theorem dX8_addBlock_48 : decode cX8_addBlock 48 = .ok (.isub, 1) := by decide +kernel
theorem dX8_addBlock_49 : decode cX8_addBlock 49 = .ok (.ireturn, 1) := by decide +kernel
set_option maxRecDepth 20000 in
theorem ggX8_setInitial_X8_requireVariable : GoodIn wsX8_setInitial wsX8_requireVariable := goodIn_ca (goodIn_r _ [9, 10, 11] (by decide +kernel) (by decide +kernel)) (goodIn_sub (fun _ h => List.mem_cons_of_mem _ (List.mem_append_left _ (List.mem_append_right _ h))) (by decide +kernel))
set_option maxRecDepth 20000 in
theorem gX8_setInitial_X8_requireVariable : GoodIn wsX8_setInitial (va_wsS RX8 52 yX8_requireVariable wsX8_requireVariable) := goodIn_app (goodIn_of _ (by decide +kernel)) ggX8_setInitial_X8_requireVariable
set_option maxRecDepth 20000 in
theorem ggX8_setInitial_X8_requireRange : GoodIn wsX8_setInitial wsX8_requireRange := goodIn_ca (goodIn_r _ [14, 15, 16, 17, 18] (by decide +kernel) (by decide +kernel)) (goodIn_sub (fun _ h => List.mem_cons_of_mem _ (List.mem_append_right _ h)) (by decide +kernel))
set_option maxRecDepth 20000 in
theorem gX8_setInitial_X8_requireRange : GoodIn wsX8_setInitial (va_wsS RX8 56 yX8_requireRange wsX8_requireRange) := goodIn_app (goodIn_of _ (by decide +kernel)) ggX8_setInitial_X8_requireRange
set_option maxRecDepth 20000 in
theorem ggX8_setInitial_X7_setRange : GoodIn wsX8_setInitial wsX7_setRange := goodIn_r _ [23, 24, 25, 34, 35, 36] (by decide +kernel) (by decide +kernel)
set_option maxRecDepth 20000 in
theorem gX8_setInitial_X7_setRange : GoodIn wsX8_setInitial (wsV RX8 73 RX7 yX7_setRange wsX7_setRange) := goodIn_app (goodIn_of _ (by decide +kernel)) ggX8_setInitial_X7_setRange
theorem dX8_setInitial_0 : decode cX8_setInitial 0 = .ok (.iload_n 1, 1) := by decide +kernel
theorem dX8_setInitial_1 : decode cX8_setInitial 1 = .ok (.invokestatic 52, 3) := by decide +kernel
theorem dX8_setInitial_4 : decode cX8_setInitial 4 = .ok (.iload_n 2, 1) := by decide +kernel
theorem dX8_setInitial_5 : decode cX8_setInitial 5 = .ok (.iload_n 3, 1) := by decide +kernel
theorem dX8_setInitial_6 : decode cX8_setInitial 6 = .ok (.invokestatic 56, 3) := by decide +kernel
theorem dX8_setInitial_9 : decode cX8_setInitial 9 = .ok (.aload_n 0, 1) := by decide +kernel
theorem dX8_setInitial_10 : decode cX8_setInitial 10 = .ok (.iconst 0, 1) := by decide +kernel
theorem dX8_setInitial_11 : decode cX8_setInitial 11 = .ok (.putfield 37, 3) := by decide +kernel
theorem dX8_setInitial_14 : decode cX8_setInitial 14 = .ok (.aload_n 0, 1) := by decide +kernel
theorem dX8_setInitial_15 : decode cX8_setInitial 15 = .ok (.getfield 10, 3) := by decide +kernel
theorem dX8_setInitial_18 : decode cX8_setInitial 18 = .ok (.getfield 60, 3) := by decide +kernel
theorem dX8_setInitial_21 : decode cX8_setInitial 21 = .ok (.astore 4, 2) := by decide +kernel
theorem dX8_setInitial_23 : decode cX8_setInitial 23 = .ok (.aload 4, 2) := by decide +kernel
theorem dX8_setInitial_25 : decode cX8_setInitial 25 = .ok (.getfield 64, 3) := by decide +kernel
theorem dX8_setInitial_28 : decode cX8_setInitial 28 = .ok (.iload_n 1, 1) := by decide +kernel
theorem dX8_setInitial_29 : decode cX8_setInitial 29 = .ok (.iaload, 1) := by decide +kernel
theorem dX8_setInitial_30 : decode cX8_setInitial 30 = .ok (.iload_n 2, 1) := by decide +kernel
theorem dX8_setInitial_31 : decode cX8_setInitial 31 = .ok (.if_icmp .ne 14, 3) := by decide +kernel
theorem dX8_setInitial_34 : decode cX8_setInitial 34 = .ok (.aload 4, 2) := by decide +kernel
theorem dX8_setInitial_36 : decode cX8_setInitial 36 = .ok (.getfield 70, 3) := by decide +kernel
theorem dX8_setInitial_39 : decode cX8_setInitial 39 = .ok (.iload_n 1, 1) := by decide +kernel
theorem dX8_setInitial_40 : decode cX8_setInitial 40 = .ok (.iaload, 1) := by decide +kernel
theorem dX8_setInitial_41 : decode cX8_setInitial 41 = .ok (.iload_n 3, 1) := by decide +kernel
theorem dX8_setInitial_42 : decode cX8_setInitial 42 = .ok (.if_icmp .eq 7, 3) := by decide +kernel
theorem dX8_setInitial_45 : decode cX8_setInitial 45 = .ok (.iconst 1, 1) := by decide +kernel
theorem dX8_setInitial_46 : decode cX8_setInitial 46 = .ok (.goto 4, 3) := by decide +kernel
theorem dX8_setInitial_49 : decode cX8_setInitial 49 = .ok (.iconst 0, 1) := by decide +kernel
theorem dX8_setInitial_50 : decode cX8_setInitial 50 = .ok (.istore 5, 2) := by decide +kernel
theorem dX8_setInitial_52 : decode cX8_setInitial 52 = .ok (.aload 4, 2) := by decide +kernel
theorem dX8_setInitial_54 : decode cX8_setInitial 54 = .ok (.iload_n 1, 1) := by decide +kernel
theorem dX8_setInitial_55 : decode cX8_setInitial 55 = .ok (.iload_n 2, 1) := by decide +kernel
theorem dX8_setInitial_56 : decode cX8_setInitial 56 = .ok (.iload_n 3, 1) := by decide +kernel
theorem dX8_setInitial_57 : decode cX8_setInitial 57 = .ok (.invokevirtual 73, 3) := by decide +kernel
theorem dX8_setInitial_60 : decode cX8_setInitial 60 = .ok (.iload 5, 2) := by decide +kernel
theorem dX8_setInitial_62 : decode cX8_setInitial 62 = .ok (.ireturn, 1) := by decide +kernel
set_option maxRecDepth 20000 in
theorem ggX8_input_X8_requireBlock : GoodIn wsX8_input wsX8_requireBlock := goodIn_ca (goodIn_r _ [8, 9, 10, 2, 11, 39, 40, 41, 42, 43, 44, 45, 46] (by decide +kernel) (by decide +kernel)) (goodIn_sub (fun _ h => List.mem_cons_of_mem _ (List.mem_append_left _ (List.mem_append_left _ (List.mem_append_right _ h)))) (by decide +kernel))
set_option maxRecDepth 20000 in
theorem gX8_input_X8_requireBlock : GoodIn wsX8_input (wsV RX8 77 RX8 yX8_requireBlock wsX8_requireBlock) := goodIn_app (goodIn_of _ (by decide +kernel)) ggX8_input_X8_requireBlock
set_option maxRecDepth 20000 in
theorem ggX8_input_X8_requireVariable : GoodIn wsX8_input wsX8_requireVariable := goodIn_ca (goodIn_r _ [14, 9, 10] (by decide +kernel) (by decide +kernel)) (goodIn_sub (fun _ h => List.mem_cons_of_mem _ (List.mem_append_left _ (List.mem_append_left _ (List.mem_append_right _ h)))) (by decide +kernel))
set_option maxRecDepth 20000 in
theorem gX8_input_X8_requireVariable : GoodIn wsX8_input (va_wsS RX8 52 yX8_requireVariable wsX8_requireVariable) := goodIn_app (goodIn_of _ (by decide +kernel)) ggX8_input_X8_requireVariable
set_option maxRecDepth 20000 in
theorem ggX8_input_X8_requireRange : GoodIn wsX8_input wsX8_requireRange := goodIn_ca (goodIn_r _ [17, 18, 19, 20, 21] (by decide +kernel) (by decide +kernel)) (goodIn_sub (fun _ h => List.mem_cons_of_mem _ (List.mem_append_left _ (List.mem_append_right _ h))) (by decide +kernel))
set_option maxRecDepth 20000 in
theorem gX8_input_X8_requireRange : GoodIn wsX8_input (va_wsS RX8 56 yX8_requireRange wsX8_requireRange) := goodIn_app (goodIn_of _ (by decide +kernel)) ggX8_input_X8_requireRange
set_option maxRecDepth 20000 in
theorem ggX8_input_X8_requireRoom : GoodIn wsX8_input wsX8_requireRoom := goodIn_ca (goodIn_r _ [25, 26, 27, 2, 3, 28, 39, 40, 41, 42, 43, 44, 45, 46, 47, 48, 49, 50, 51, 52, 53, 54, 55, 56] (by decide +kernel) (by decide +kernel)) (goodIn_sub (fun _ h => List.mem_cons_of_mem _ (List.mem_append_right _ h)) (by decide +kernel))
set_option maxRecDepth 20000 in
theorem gX8_input_X8_requireRoom : GoodIn wsX8_input (wsV RX8 80 RX8 yX8_requireRoom wsX8_requireRoom) := goodIn_app (goodIn_of _ (by decide +kernel)) ggX8_input_X8_requireRoom
set_option maxRecDepth 20000 in
theorem ggX8_input_X2_append : GoodIn wsX8_input wsX2_append := goodIn_r _ [33, 34, 35, 36, 37, 38, 47, 48, 49, 50, 51, 52, 53, 54, 55, 56] (by decide +kernel) (by decide +kernel)
set_option maxRecDepth 20000 in
theorem gX8_input_X2_append : GoodIn wsX8_input (wsV RX8 87 RX2 yX2_append wsX2_append) := goodIn_app (goodIn_of _ (by decide +kernel)) ggX8_input_X2_append
theorem dX8_input_0 : decode cX8_input 0 = .ok (.aload_n 0, 1) := by decide +kernel
theorem dX8_input_1 : decode cX8_input 1 = .ok (.iload_n 1, 1) := by decide +kernel
theorem dX8_input_2 : decode cX8_input 2 = .ok (.invokevirtual 77, 3) := by decide +kernel
theorem dX8_input_5 : decode cX8_input 5 = .ok (.iload_n 2, 1) := by decide +kernel
theorem dX8_input_6 : decode cX8_input 6 = .ok (.invokestatic 52, 3) := by decide +kernel
theorem dX8_input_9 : decode cX8_input 9 = .ok (.iload_n 3, 1) := by decide +kernel
theorem dX8_input_10 : decode cX8_input 10 = .ok (.iload 4, 2) := by decide +kernel
theorem dX8_input_12 : decode cX8_input 12 = .ok (.invokestatic 56, 3) := by decide +kernel
theorem dX8_input_15 : decode cX8_input 15 = .ok (.aload_n 0, 1) := by decide +kernel
theorem dX8_input_16 : decode cX8_input 16 = .ok (.iload_n 1, 1) := by decide +kernel
theorem dX8_input_17 : decode cX8_input 17 = .ok (.invokevirtual 80, 3) := by decide +kernel
theorem dX8_input_20 : decode cX8_input 20 = .ok (.aload_n 0, 1) := by decide +kernel
theorem dX8_input_21 : decode cX8_input 21 = .ok (.iconst 0, 1) := by decide +kernel
theorem dX8_input_22 : decode cX8_input 22 = .ok (.putfield 37, 3) := by decide +kernel
theorem dX8_input_25 : decode cX8_input 25 = .ok (.aload_n 0, 1) := by decide +kernel
theorem dX8_input_26 : decode cX8_input 26 = .ok (.getfield 10, 3) := by decide +kernel
theorem dX8_input_29 : decode cX8_input 29 = .ok (.getfield 83, 3) := by decide +kernel
theorem dX8_input_32 : decode cX8_input 32 = .ok (.iload_n 1, 1) := by decide +kernel
theorem dX8_input_33 : decode cX8_input 33 = .ok (.aaload, 1) := by decide +kernel
theorem dX8_input_34 : decode cX8_input 34 = .ok (.iload_n 3, 1) := by decide +kernel
theorem dX8_input_35 : decode cX8_input 35 = .ok (.iload 4, 2) := by decide +kernel
theorem dX8_input_37 : decode cX8_input 37 = .ok (.if_icmp .ne 8, 3) := by decide +kernel
theorem dX8_input_40 : decode cX8_input 40 = .ok (.bipush 7, 2) := by decide +kernel
theorem dX8_input_42 : decode cX8_input 42 = .ok (.goto 5, 3) := by decide +kernel
theorem dX8_input_45 : decode cX8_input 45 = .ok (.bipush 6, 2) := by decide +kernel
theorem dX8_input_47 : decode cX8_input 47 = .ok (.iload_n 2, 1) := by decide +kernel
theorem dX8_input_48 : decode cX8_input 48 = .ok (.iload_n 3, 1) := by decide +kernel
theorem dX8_input_49 : decode cX8_input 49 = .ok (.iload 4, 2) := by decide +kernel
theorem dX8_input_51 : decode cX8_input 51 = .ok (.invokevirtual 87, 3) := by decide +kernel
theorem dX8_input_54 : decode cX8_input 54 = .ok (.ireturn, 1) := by decide +kernel
set_option maxRecDepth 20000 in
theorem ggX8_compute_X8_requireBlock : GoodIn wsX8_compute wsX8_requireBlock := goodIn_ca (goodIn_r _ [10, 11, 12, 4, 13, 34, 35, 36, 37, 38, 39, 40, 41] (by decide +kernel) (by decide +kernel)) (goodIn_sub (fun _ h => List.mem_cons_of_mem _ (List.mem_append_left _ (List.mem_append_right _ h))) (by decide +kernel))
set_option maxRecDepth 20000 in
theorem gX8_compute_X8_requireBlock : GoodIn wsX8_compute (wsV RX8 77 RX8 yX8_requireBlock wsX8_requireBlock) := goodIn_app (goodIn_of _ (by decide +kernel)) ggX8_compute_X8_requireBlock
set_option maxRecDepth 20000 in
theorem ggX8_compute_X8_requireVariable : GoodIn wsX8_compute wsX8_requireVariable := goodIn_ca (goodIn_r _ [16, 11, 12] (by decide +kernel) (by decide +kernel)) (goodIn_sub (fun _ h => List.mem_cons_of_mem _ (List.mem_append_left _ (List.mem_append_right _ h))) (by decide +kernel))
set_option maxRecDepth 20000 in
theorem gX8_compute_X8_requireVariable : GoodIn wsX8_compute (va_wsS RX8 52 yX8_requireVariable wsX8_requireVariable) := goodIn_app (goodIn_of _ (by decide +kernel)) ggX8_compute_X8_requireVariable
set_option maxRecDepth 20000 in
theorem ggX8_compute_X8_requireRoom : GoodIn wsX8_compute wsX8_requireRoom := goodIn_ca (goodIn_r _ [20, 21, 22, 4, 5, 23, 34, 35, 36, 37, 38, 39, 40, 41, 42, 43, 44, 45, 46, 47, 48, 49, 50, 51] (by decide +kernel) (by decide +kernel)) (goodIn_sub (fun _ h => List.mem_cons_of_mem _ (List.mem_append_right _ h)) (by decide +kernel))
set_option maxRecDepth 20000 in
theorem gX8_compute_X8_requireRoom : GoodIn wsX8_compute (wsV RX8 80 RX8 yX8_requireRoom wsX8_requireRoom) := goodIn_app (goodIn_of _ (by decide +kernel)) ggX8_compute_X8_requireRoom
set_option maxRecDepth 20000 in
theorem ggX8_compute_X2_append : GoodIn wsX8_compute wsX2_append := goodIn_r _ [28, 29, 30, 31, 32, 33, 42, 43, 44, 45, 46, 47, 48, 49, 50, 51] (by decide +kernel) (by decide +kernel)
set_option maxRecDepth 20000 in
theorem gX8_compute_X2_append : GoodIn wsX8_compute (wsV RX8 87 RX2 yX2_append wsX2_append) := goodIn_app (goodIn_of _ (by decide +kernel)) ggX8_compute_X2_append
theorem dX8_compute_0 : decode cX8_compute 0 = .ok (.aload_n 0, 1) := by decide +kernel
theorem dX8_compute_1 : decode cX8_compute 1 = .ok (.iload_n 1, 1) := by decide +kernel
theorem dX8_compute_2 : decode cX8_compute 2 = .ok (.invokevirtual 77, 3) := by decide +kernel
theorem dX8_compute_5 : decode cX8_compute 5 = .ok (.iload_n 3, 1) := by decide +kernel
theorem dX8_compute_6 : decode cX8_compute 6 = .ok (.invokestatic 52, 3) := by decide +kernel
theorem dX8_compute_9 : decode cX8_compute 9 = .ok (.iload 4, 2) := by decide +kernel
theorem dX8_compute_11 : decode cX8_compute 11 = .ok (.invokestatic 52, 3) := by decide +kernel
theorem dX8_compute_14 : decode cX8_compute 14 = .ok (.iload 5, 2) := by decide +kernel
theorem dX8_compute_16 : decode cX8_compute 16 = .ok (.invokestatic 52, 3) := by decide +kernel
theorem dX8_compute_19 : decode cX8_compute 19 = .ok (.iload_n 2, 1) := by decide +kernel
theorem dX8_compute_20 : decode cX8_compute 20 = .ok (.ifCond .lt 8, 3) := by decide +kernel
theorem dX8_compute_23 : decode cX8_compute 23 = .ok (.iload_n 2, 1) := by decide +kernel
theorem dX8_compute_24 : decode cX8_compute 24 = .ok (.iconst 5, 1) := by decide +kernel
theorem dX8_compute_25 : decode cX8_compute 25 = .ok (.if_icmp .le 13, 3) := by decide +kernel
theorem dX8_compute_28 : decode cX8_compute 28 = .ok (.new 93, 3) := by decide +kernel
theorem dX8_compute_31 : decode cX8_compute 31 = .ok (.dup, 1) := by decide +kernel
theorem dX8_compute_32 : decode cX8_compute 32 = .ok (.ldc 95, 2) := by decide +kernel
theorem dX8_compute_34 : decode cX8_compute 34 = .ok (.invokespecial 97, 3) := by decide +kernel
theorem dX8_compute_37 : decode cX8_compute 37 = .ok (.athrow, 1) := by decide +kernel
theorem dX8_compute_38 : decode cX8_compute 38 = .ok (.aload_n 0, 1) := by decide +kernel
theorem dX8_compute_39 : decode cX8_compute 39 = .ok (.iload_n 1, 1) := by decide +kernel
theorem dX8_compute_40 : decode cX8_compute 40 = .ok (.invokevirtual 80, 3) := by decide +kernel
theorem dX8_compute_43 : decode cX8_compute 43 = .ok (.aload_n 0, 1) := by decide +kernel
theorem dX8_compute_44 : decode cX8_compute 44 = .ok (.iconst 0, 1) := by decide +kernel
theorem dX8_compute_45 : decode cX8_compute 45 = .ok (.putfield 37, 3) := by decide +kernel
theorem dX8_compute_48 : decode cX8_compute 48 = .ok (.aload_n 0, 1) := by decide +kernel
theorem dX8_compute_49 : decode cX8_compute 49 = .ok (.getfield 10, 3) := by decide +kernel
theorem dX8_compute_52 : decode cX8_compute 52 = .ok (.getfield 83, 3) := by decide +kernel
theorem dX8_compute_55 : decode cX8_compute 55 = .ok (.iload_n 1, 1) := by decide +kernel
theorem dX8_compute_56 : decode cX8_compute 56 = .ok (.aaload, 1) := by decide +kernel
theorem dX8_compute_57 : decode cX8_compute 57 = .ok (.iload_n 2, 1) := by decide +kernel
theorem dX8_compute_58 : decode cX8_compute 58 = .ok (.iload_n 3, 1) := by decide +kernel
theorem dX8_compute_59 : decode cX8_compute 59 = .ok (.iload 4, 2) := by decide +kernel
theorem dX8_compute_61 : decode cX8_compute 61 = .ok (.iload 5, 2) := by decide +kernel
theorem dX8_compute_63 : decode cX8_compute 63 = .ok (.invokevirtual 87, 3) := by decide +kernel
theorem dX8_compute_66 : decode cX8_compute 66 = .ok (.ireturn, 1) := by decide +kernel
set_option maxRecDepth 20000 in
theorem ggX8_jump_X8_requireBlock : GoodIn wsX8_jump wsX8_requireBlock := goodIn_ca (goodIn_r _ [9, 10, 11, 2, 12, 20, 21, 22, 23, 24, 25, 26, 27] (by decide +kernel) (by decide +kernel)) (goodIn_sub (fun _ h => List.mem_cons_of_mem _ (List.mem_append_right _ h)) (by decide +kernel))
set_option maxRecDepth 20000 in
theorem gX8_jump_X8_requireBlock : GoodIn wsX8_jump (wsV RX8 77 RX8 yX8_requireBlock wsX8_requireBlock) := goodIn_app (goodIn_of _ (by decide +kernel)) ggX8_jump_X8_requireBlock
set_option maxRecDepth 20000 in
theorem ggX8_jump_X2_endWithJump : GoodIn wsX8_jump wsX2_endWithJump := goodIn_r _ [17, 18, 19, 28, 29, 30, 31, 32, 33, 34, 35, 36, 37] (by decide +kernel) (by decide +kernel)
set_option maxRecDepth 20000 in
theorem gX8_jump_X2_endWithJump : GoodIn wsX8_jump (wsV RX8 101 RX2 yX2_endWithJump wsX2_endWithJump) := goodIn_app (goodIn_of _ (by decide +kernel)) ggX8_jump_X2_endWithJump
theorem dX8_jump_0 : decode cX8_jump 0 = .ok (.aload_n 0, 1) := by decide +kernel
theorem dX8_jump_1 : decode cX8_jump 1 = .ok (.iload_n 1, 1) := by decide +kernel
theorem dX8_jump_2 : decode cX8_jump 2 = .ok (.invokevirtual 77, 3) := by decide +kernel
theorem dX8_jump_5 : decode cX8_jump 5 = .ok (.aload_n 0, 1) := by decide +kernel
theorem dX8_jump_6 : decode cX8_jump 6 = .ok (.iload_n 2, 1) := by decide +kernel
theorem dX8_jump_7 : decode cX8_jump 7 = .ok (.invokevirtual 77, 3) := by decide +kernel
theorem dX8_jump_10 : decode cX8_jump 10 = .ok (.aload_n 0, 1) := by decide +kernel
theorem dX8_jump_11 : decode cX8_jump 11 = .ok (.iconst 0, 1) := by decide +kernel
theorem dX8_jump_12 : decode cX8_jump 12 = .ok (.putfield 37, 3) := by decide +kernel
theorem dX8_jump_15 : decode cX8_jump 15 = .ok (.aload_n 0, 1) := by decide +kernel
theorem dX8_jump_16 : decode cX8_jump 16 = .ok (.getfield 10, 3) := by decide +kernel
theorem dX8_jump_19 : decode cX8_jump 19 = .ok (.getfield 83, 3) := by decide +kernel
theorem dX8_jump_22 : decode cX8_jump 22 = .ok (.iload_n 1, 1) := by decide +kernel
theorem dX8_jump_23 : decode cX8_jump 23 = .ok (.aaload, 1) := by decide +kernel
theorem dX8_jump_24 : decode cX8_jump 24 = .ok (.astore_n 3, 1) := by decide +kernel
theorem dX8_jump_25 : decode cX8_jump 25 = .ok (.aload_n 3, 1) := by decide +kernel
theorem dX8_jump_26 : decode cX8_jump 26 = .ok (.getfield 98, 3) := by decide +kernel
theorem dX8_jump_29 : decode cX8_jump 29 = .ok (.istore 4, 2) := by decide +kernel
theorem dX8_jump_31 : decode cX8_jump 31 = .ok (.aload_n 3, 1) := by decide +kernel
theorem dX8_jump_32 : decode cX8_jump 32 = .ok (.iload_n 2, 1) := by decide +kernel
theorem dX8_jump_33 : decode cX8_jump 33 = .ok (.invokevirtual 101, 3) := by decide +kernel
theorem dX8_jump_36 : decode cX8_jump 36 = .ok (.iload 4, 2) := by decide +kernel
theorem dX8_jump_38 : decode cX8_jump 38 = .ok (.ireturn, 1) := by decide +kernel
set_option maxRecDepth 20000 in
theorem ggX8_branch_X8_requireBlock : GoodIn wsX8_branch wsX8_requireBlock := goodIn_ca (goodIn_r _ [11, 12, 13, 4, 14, 28, 29, 30, 31, 32, 33, 34, 35] (by decide +kernel) (by decide +kernel)) (goodIn_sub (fun _ h => List.mem_cons_of_mem _ (List.mem_append_right _ h)) (by decide +kernel))
set_option maxRecDepth 20000 in
theorem gX8_branch_X8_requireBlock : GoodIn wsX8_branch (wsV RX8 77 RX8 yX8_requireBlock wsX8_requireBlock) := goodIn_app (goodIn_of _ (by decide +kernel)) ggX8_branch_X8_requireBlock
set_option maxRecDepth 20000 in
theorem ggX8_branch_X8_requireVariable : GoodIn wsX8_branch wsX8_requireVariable := goodIn_ca (goodIn_r _ [17, 12, 13] (by decide +kernel) (by decide +kernel)) (goodIn_sub (fun _ h => List.mem_cons_of_mem _ (List.mem_append_right _ h)) (by decide +kernel))
set_option maxRecDepth 20000 in
theorem gX8_branch_X8_requireVariable : GoodIn wsX8_branch (va_wsS RX8 52 yX8_requireVariable wsX8_requireVariable) := goodIn_app (goodIn_of _ (by decide +kernel)) ggX8_branch_X8_requireVariable
set_option maxRecDepth 20000 in
theorem ggX8_branch_X2_endWithBranch : GoodIn wsX8_branch wsX2_endWithBranch := goodIn_r _ [22, 23, 24, 25, 26, 27, 36, 37, 38, 39, 40, 41, 42, 43, 44, 45] (by decide +kernel) (by decide +kernel)
set_option maxRecDepth 20000 in
theorem gX8_branch_X2_endWithBranch : GoodIn wsX8_branch (wsV RX8 106 RX2 yX2_endWithBranch wsX2_endWithBranch) := goodIn_app (goodIn_of _ (by decide +kernel)) ggX8_branch_X2_endWithBranch
theorem dX8_branch_0 : decode cX8_branch 0 = .ok (.aload_n 0, 1) := by decide +kernel
theorem dX8_branch_1 : decode cX8_branch 1 = .ok (.iload_n 1, 1) := by decide +kernel
theorem dX8_branch_2 : decode cX8_branch 2 = .ok (.invokevirtual 77, 3) := by decide +kernel
theorem dX8_branch_5 : decode cX8_branch 5 = .ok (.iload_n 2, 1) := by decide +kernel
theorem dX8_branch_6 : decode cX8_branch 6 = .ok (.invokestatic 52, 3) := by decide +kernel
theorem dX8_branch_9 : decode cX8_branch 9 = .ok (.iload 4, 2) := by decide +kernel
theorem dX8_branch_11 : decode cX8_branch 11 = .ok (.invokestatic 52, 3) := by decide +kernel
theorem dX8_branch_14 : decode cX8_branch 14 = .ok (.aload_n 0, 1) := by decide +kernel
theorem dX8_branch_15 : decode cX8_branch 15 = .ok (.iload 5, 2) := by decide +kernel
theorem dX8_branch_17 : decode cX8_branch 17 = .ok (.invokevirtual 77, 3) := by decide +kernel
theorem dX8_branch_20 : decode cX8_branch 20 = .ok (.aload_n 0, 1) := by decide +kernel
theorem dX8_branch_21 : decode cX8_branch 21 = .ok (.iload 6, 2) := by decide +kernel
theorem dX8_branch_23 : decode cX8_branch 23 = .ok (.invokevirtual 77, 3) := by decide +kernel
theorem dX8_branch_26 : decode cX8_branch 26 = .ok (.iload_n 3, 1) := by decide +kernel
theorem dX8_branch_27 : decode cX8_branch 27 = .ok (.ifCond .lt 8, 3) := by decide +kernel
theorem dX8_branch_30 : decode cX8_branch 30 = .ok (.iload_n 3, 1) := by decide +kernel
theorem dX8_branch_31 : decode cX8_branch 31 = .ok (.iconst 3, 1) := by decide +kernel
theorem dX8_branch_32 : decode cX8_branch 32 = .ok (.if_icmp .le 13, 3) := by decide +kernel
theorem dX8_branch_35 : decode cX8_branch 35 = .ok (.new 93, 3) := by decide +kernel
theorem dX8_branch_38 : decode cX8_branch 38 = .ok (.dup, 1) := by decide +kernel
theorem dX8_branch_39 : decode cX8_branch 39 = .ok (.ldc 104, 2) := by decide +kernel
theorem dX8_branch_41 : decode cX8_branch 41 = .ok (.invokespecial 97, 3) := by decide +kernel
theorem dX8_branch_44 : decode cX8_branch 44 = .ok (.athrow, 1) := by decide +kernel
theorem dX8_branch_45 : decode cX8_branch 45 = .ok (.aload_n 0, 1) := by decide +kernel
theorem dX8_branch_46 : decode cX8_branch 46 = .ok (.iconst 0, 1) := by decide +kernel
theorem dX8_branch_47 : decode cX8_branch 47 = .ok (.putfield 37, 3) := by decide +kernel
theorem dX8_branch_50 : decode cX8_branch 50 = .ok (.aload_n 0, 1) := by decide +kernel
theorem dX8_branch_51 : decode cX8_branch 51 = .ok (.getfield 10, 3) := by decide +kernel
theorem dX8_branch_54 : decode cX8_branch 54 = .ok (.getfield 83, 3) := by decide +kernel
theorem dX8_branch_57 : decode cX8_branch 57 = .ok (.iload_n 1, 1) := by decide +kernel
theorem dX8_branch_58 : decode cX8_branch 58 = .ok (.aaload, 1) := by decide +kernel
theorem dX8_branch_59 : decode cX8_branch 59 = .ok (.astore 7, 2) := by decide +kernel
theorem dX8_branch_61 : decode cX8_branch 61 = .ok (.aload 7, 2) := by decide +kernel
theorem dX8_branch_63 : decode cX8_branch 63 = .ok (.getfield 98, 3) := by decide +kernel
theorem dX8_branch_66 : decode cX8_branch 66 = .ok (.istore 8, 2) := by decide +kernel
theorem dX8_branch_68 : decode cX8_branch 68 = .ok (.aload 7, 2) := by decide +kernel
theorem dX8_branch_70 : decode cX8_branch 70 = .ok (.iload_n 2, 1) := by decide +kernel
theorem dX8_branch_71 : decode cX8_branch 71 = .ok (.iload_n 3, 1) := by decide +kernel
theorem dX8_branch_72 : decode cX8_branch 72 = .ok (.iload 4, 2) := by decide +kernel
theorem dX8_branch_74 : decode cX8_branch 74 = .ok (.iload 5, 2) := by decide +kernel
theorem dX8_branch_76 : decode cX8_branch 76 = .ok (.iload 6, 2) := by decide +kernel
theorem dX8_branch_78 : decode cX8_branch 78 = .ok (.invokevirtual 106, 3) := by decide +kernel
theorem dX8_branch_81 : decode cX8_branch 81 = .ok (.iload 8, 2) := by decide +kernel
theorem dX8_branch_83 : decode cX8_branch 83 = .ok (.ireturn, 1) := by decide +kernel
set_option maxRecDepth 20000 in
theorem ggX8_clear_X8_requireBlock : GoodIn wsX8_clear wsX8_requireBlock := goodIn_ca (goodIn_r _ [9, 10, 11, 2, 12, 20, 21, 22, 23, 24, 25, 26, 27] (by decide +kernel) (by decide +kernel)) (goodIn_sub (fun _ h => List.mem_cons_of_mem _ (List.mem_append_right _ h)) (by decide +kernel))
set_option maxRecDepth 20000 in
theorem gX8_clear_X8_requireBlock : GoodIn wsX8_clear (wsV RX8 77 RX8 yX8_requireBlock wsX8_requireBlock) := goodIn_app (goodIn_of _ (by decide +kernel)) ggX8_clear_X8_requireBlock
set_option maxRecDepth 20000 in
theorem ggX8_clear_X2_makeEmpty : GoodIn wsX8_clear wsX2_makeEmpty := goodIn_r _ [17, 18, 19, 28, 29, 30, 31, 32, 33, 34, 35, 36, 37] (by decide +kernel) (by decide +kernel)
set_option maxRecDepth 20000 in
theorem gX8_clear_X2_makeEmpty : GoodIn wsX8_clear (wsV RX8 113 RX2 yX2_makeEmpty wsX2_makeEmpty) := goodIn_app (goodIn_of _ (by decide +kernel)) ggX8_clear_X2_makeEmpty
theorem dX8_clear_0 : decode cX8_clear 0 = .ok (.aload_n 0, 1) := by decide +kernel
theorem dX8_clear_1 : decode cX8_clear 1 = .ok (.iload_n 1, 1) := by decide +kernel
theorem dX8_clear_2 : decode cX8_clear 2 = .ok (.invokevirtual 77, 3) := by decide +kernel
theorem dX8_clear_5 : decode cX8_clear 5 = .ok (.aload_n 0, 1) := by decide +kernel
theorem dX8_clear_6 : decode cX8_clear 6 = .ok (.iconst 0, 1) := by decide +kernel
theorem dX8_clear_7 : decode cX8_clear 7 = .ok (.putfield 37, 3) := by decide +kernel
theorem dX8_clear_10 : decode cX8_clear 10 = .ok (.aload_n 0, 1) := by decide +kernel
theorem dX8_clear_11 : decode cX8_clear 11 = .ok (.getfield 10, 3) := by decide +kernel
theorem dX8_clear_14 : decode cX8_clear 14 = .ok (.getfield 83, 3) := by decide +kernel
theorem dX8_clear_17 : decode cX8_clear 17 = .ok (.iload_n 1, 1) := by decide +kernel
theorem dX8_clear_18 : decode cX8_clear 18 = .ok (.aaload, 1) := by decide +kernel
theorem dX8_clear_19 : decode cX8_clear 19 = .ok (.astore_n 2, 1) := by decide +kernel
theorem dX8_clear_20 : decode cX8_clear 20 = .ok (.aload_n 2, 1) := by decide +kernel
theorem dX8_clear_21 : decode cX8_clear 21 = .ok (.getfield 110, 3) := by decide +kernel
theorem dX8_clear_24 : decode cX8_clear 24 = .ok (.istore_n 3, 1) := by decide +kernel
theorem dX8_clear_25 : decode cX8_clear 25 = .ok (.aload_n 2, 1) := by decide +kernel
theorem dX8_clear_26 : decode cX8_clear 26 = .ok (.invokevirtual 113, 3) := by decide +kernel
theorem dX8_clear_29 : decode cX8_clear 29 = .ok (.iload_n 3, 1) := by decide +kernel
theorem dX8_clear_30 : decode cX8_clear 30 = .ok (.ireturn, 1) := by decide +kernel
theorem dX8_blockCount_0 : decode cX8_blockCount 0 = .ok (.aload_n 0, 1) := by decide +kernel
theorem dX8_blockCount_1 : decode cX8_blockCount 1 = .ok (.getfield 10, 3) := by decide +kernel
theorem dX8_blockCount_4 : decode cX8_blockCount 4 = .ok (.getfield 41, 3) := by decide +kernel
theorem dX8_blockCount_7 : decode cX8_blockCount 7 = .ok (.ireturn, 1) := by decide +kernel
theorem dX8_setEffort_0 : decode cX8_setEffort 0 = .ok (.iload_n 1, 1) := by decide +kernel
theorem dX8_setEffort_1 : decode cX8_setEffort 1 = .ok (.ifCond .lt 9, 3) := by decide +kernel
theorem dX8_setEffort_4 : decode cX8_setEffort 4 = .ok (.iload_n 1, 1) := by decide +kernel
theorem dX8_setEffort_5 : decode cX8_setEffort 5 = .ok (.bipush 10, 2) := by decide +kernel
theorem dX8_setEffort_7 : decode cX8_setEffort 7 = .ok (.if_icmp .le 13, 3) := by decide +kernel
theorem dX8_setEffort_10 : decode cX8_setEffort 10 = .ok (.new 93, 3) := by decide +kernel
theorem dX8_setEffort_13 : decode cX8_setEffort 13 = .ok (.dup, 1) := by decide +kernel
theorem dX8_setEffort_14 : decode cX8_setEffort 14 = .ok (.ldc 116, 2) := by decide +kernel
theorem dX8_setEffort_16 : decode cX8_setEffort 16 = .ok (.invokespecial 97, 3) := by decide +kernel
theorem dX8_setEffort_19 : decode cX8_setEffort 19 = .ok (.athrow, 1) := by decide +kernel
theorem dX8_setEffort_20 : decode cX8_setEffort 20 = .ok (.iload_n 2, 1) := by decide +kernel
theorem dX8_setEffort_21 : decode cX8_setEffort 21 = .ok (.ifCond .lt 8, 3) := by decide +kernel
theorem dX8_setEffort_24 : decode cX8_setEffort 24 = .ok (.iload_n 2, 1) := by decide +kernel
theorem dX8_setEffort_25 : decode cX8_setEffort 25 = .ok (.iconst 5, 1) := by decide +kernel
theorem dX8_setEffort_26 : decode cX8_setEffort 26 = .ok (.if_icmp .le 13, 3) := by decide +kernel
theorem dX8_setEffort_29 : decode cX8_setEffort 29 = .ok (.new 93, 3) := by decide +kernel
theorem dX8_setEffort_32 : decode cX8_setEffort 32 = .ok (.dup, 1) := by decide +kernel
theorem dX8_setEffort_33 : decode cX8_setEffort 33 = .ok (.ldc 118, 2) := by decide +kernel
theorem dX8_setEffort_35 : decode cX8_setEffort 35 = .ok (.invokespecial 97, 3) := by decide +kernel
theorem dX8_setEffort_38 : decode cX8_setEffort 38 = .ok (.athrow, 1) := by decide +kernel
theorem dX8_setEffort_39 : decode cX8_setEffort 39 = .ok (.aload_n 0, 1) := by decide +kernel
theorem dX8_setEffort_40 : decode cX8_setEffort 40 = .ok (.iconst 0, 1) := by decide +kernel
theorem dX8_setEffort_41 : decode cX8_setEffort 41 = .ok (.putfield 37, 3) := by decide +kernel
theorem dX8_setEffort_44 : decode cX8_setEffort 44 = .ok (.aload_n 0, 1) := by decide +kernel
theorem dX8_setEffort_45 : decode cX8_setEffort 45 = .ok (.getfield 19, 3) := by decide +kernel
theorem dX8_setEffort_48 : decode cX8_setEffort 48 = .ok (.getfield 120, 3) := by decide +kernel
theorem dX8_setEffort_51 : decode cX8_setEffort 51 = .ok (.iload_n 1, 1) := by decide +kernel
theorem dX8_setEffort_52 : decode cX8_setEffort 52 = .ok (.if_icmp .ne 14, 3) := by decide +kernel
theorem dX8_setEffort_55 : decode cX8_setEffort 55 = .ok (.aload_n 0, 1) := by decide +kernel
theorem dX8_setEffort_56 : decode cX8_setEffort 56 = .ok (.getfield 19, 3) := by decide +kernel
theorem dX8_setEffort_59 : decode cX8_setEffort 59 = .ok (.getfield 123, 3) := by decide +kernel
theorem dX8_setEffort_62 : decode cX8_setEffort 62 = .ok (.iload_n 2, 1) := by decide +kernel
theorem dX8_setEffort_63 : decode cX8_setEffort 63 = .ok (.if_icmp .eq 7, 3) := by decide +kernel
theorem dX8_setEffort_66 : decode cX8_setEffort 66 = .ok (.iconst 1, 1) := by decide +kernel
theorem dX8_setEffort_67 : decode cX8_setEffort 67 = .ok (.goto 4, 3) := by decide +kernel
theorem dX8_setEffort_70 : decode cX8_setEffort 70 = .ok (.iconst 0, 1) := by decide +kernel
theorem dX8_setEffort_71 : decode cX8_setEffort 71 = .ok (.istore_n 3, 1) := by decide +kernel
theorem dX8_setEffort_72 : decode cX8_setEffort 72 = .ok (.aload_n 0, 1) := by decide +kernel
theorem dX8_setEffort_73 : decode cX8_setEffort 73 = .ok (.getfield 19, 3) := by decide +kernel
theorem dX8_setEffort_76 : decode cX8_setEffort 76 = .ok (.iload_n 1, 1) := by decide +kernel
theorem dX8_setEffort_77 : decode cX8_setEffort 77 = .ok (.putfield 120, 3) := by decide +kernel
theorem dX8_setEffort_80 : decode cX8_setEffort 80 = .ok (.aload_n 0, 1) := by decide +kernel
theorem dX8_setEffort_81 : decode cX8_setEffort 81 = .ok (.getfield 19, 3) := by decide +kernel
theorem dX8_setEffort_84 : decode cX8_setEffort 84 = .ok (.iload_n 2, 1) := by decide +kernel
theorem dX8_setEffort_85 : decode cX8_setEffort 85 = .ok (.putfield 123, 3) := by decide +kernel
theorem dX8_setEffort_88 : decode cX8_setEffort 88 = .ok (.iload_n 3, 1) := by decide +kernel
theorem dX8_setEffort_89 : decode cX8_setEffort 89 = .ok (.ireturn, 1) := by decide +kernel
set_option maxRecDepth 20000 in
theorem ggX8_addThreshold_X6_keepThreshold : GoodIn wsX8_addThreshold wsX6_keepThreshold := goodIn_r _ [14, 15, 16, 22, 23, 24, 25] (by decide +kernel) (by decide +kernel)
set_option maxRecDepth 20000 in
theorem gX8_addThreshold_X6_keepThreshold : GoodIn wsX8_addThreshold (wsV RX8 135 RX6 yX6_keepThreshold wsX6_keepThreshold) := goodIn_app (goodIn_of _ (by decide +kernel)) ggX8_addThreshold_X6_keepThreshold
theorem dX8_addThreshold_0 : decode cX8_addThreshold 0 = .ok (.iload_n 1, 1) := by decide +kernel
theorem dX8_addThreshold_1 : decode cX8_addThreshold 1 = .ok (.ldc 126, 2) := by decide +kernel
theorem dX8_addThreshold_3 : decode cX8_addThreshold 3 = .ok (.if_icmp .le 9, 3) := by decide +kernel
theorem dX8_addThreshold_6 : decode cX8_addThreshold 6 = .ok (.iload_n 1, 1) := by decide +kernel
theorem dX8_addThreshold_7 : decode cX8_addThreshold 7 = .ok (.ldc 127, 2) := by decide +kernel
theorem dX8_addThreshold_9 : decode cX8_addThreshold 9 = .ok (.if_icmp .lt 13, 3) := by decide +kernel
theorem dX8_addThreshold_12 : decode cX8_addThreshold 12 = .ok (.new 93, 3) := by decide +kernel
theorem dX8_addThreshold_15 : decode cX8_addThreshold 15 = .ok (.dup, 1) := by decide +kernel
theorem dX8_addThreshold_16 : decode cX8_addThreshold 16 = .ok (.ldc 128, 2) := by decide +kernel
theorem dX8_addThreshold_18 : decode cX8_addThreshold 18 = .ok (.invokespecial 97, 3) := by decide +kernel
theorem dX8_addThreshold_21 : decode cX8_addThreshold 21 = .ok (.athrow, 1) := by decide +kernel
theorem dX8_addThreshold_22 : decode cX8_addThreshold 22 = .ok (.aload_n 0, 1) := by decide +kernel
theorem dX8_addThreshold_23 : decode cX8_addThreshold 23 = .ok (.getfield 19, 3) := by decide +kernel
theorem dX8_addThreshold_26 : decode cX8_addThreshold 26 = .ok (.getfield 130, 3) := by decide +kernel
theorem dX8_addThreshold_29 : decode cX8_addThreshold 29 = .ok (.bipush 8, 2) := by decide +kernel
theorem dX8_addThreshold_31 : decode cX8_addThreshold 31 = .ok (.if_icmp .lt 13, 3) := by decide +kernel
theorem dX8_addThreshold_34 : decode cX8_addThreshold 34 = .ok (.new 45, 3) := by decide +kernel
theorem dX8_addThreshold_37 : decode cX8_addThreshold 37 = .ok (.dup, 1) := by decide +kernel
theorem dX8_addThreshold_38 : decode cX8_addThreshold 38 = .ok (.ldc 133, 2) := by decide +kernel
theorem dX8_addThreshold_40 : decode cX8_addThreshold 40 = .ok (.invokespecial 49, 3) := by decide +kernel
theorem dX8_addThreshold_43 : decode cX8_addThreshold 43 = .ok (.athrow, 1) := by decide +kernel
theorem dX8_addThreshold_44 : decode cX8_addThreshold 44 = .ok (.aload_n 0, 1) := by decide +kernel
theorem dX8_addThreshold_45 : decode cX8_addThreshold 45 = .ok (.iconst 0, 1) := by decide +kernel
theorem dX8_addThreshold_46 : decode cX8_addThreshold 46 = .ok (.putfield 37, 3) := by decide +kernel
theorem dX8_addThreshold_49 : decode cX8_addThreshold 49 = .ok (.aload_n 0, 1) := by decide +kernel
theorem dX8_addThreshold_50 : decode cX8_addThreshold 50 = .ok (.getfield 19, 3) := by decide +kernel
theorem dX8_addThreshold_53 : decode cX8_addThreshold 53 = .ok (.iload_n 1, 1) := by decide +kernel
theorem dX8_addThreshold_54 : decode cX8_addThreshold 54 = .ok (.invokevirtual 135, 3) := by decide +kernel
theorem dX8_addThreshold_57 : decode cX8_addThreshold 57 = .ok (.aload_n 0, 1) := by decide +kernel
theorem dX8_addThreshold_58 : decode cX8_addThreshold 58 = .ok (.getfield 19, 3) := by decide +kernel
theorem dX8_addThreshold_61 : decode cX8_addThreshold 61 = .ok (.getfield 130, 3) := by decide +kernel
theorem dX8_addThreshold_64 : decode cX8_addThreshold 64 = .ok (.ireturn, 1) := by decide +kernel
set_option maxRecDepth 20000 in
theorem ggX8_analyze_X0_forget : GoodIn wsX8_analyze wsX0_forget := goodIn_r _ [10, 11, 12, 13, 14, 15, 16, 17, 18, 19, 20, 21, 193, 194, 195, 196, 197, 198, 199, 200, 201, 202] (by decide +kernel) (by decide +kernel)
set_option maxRecDepth 20000 in
theorem gX8_analyze_X0_forget : GoodIn wsX8_analyze (wsV RX8 138 RX0 yX0_forget wsX0_forget) := goodIn_app (goodIn_of _ (by decide +kernel)) ggX8_analyze_X0_forget
set_option maxRecDepth 20000 in
theorem ggX8_analyze_X0_makeRounds : GoodIn wsX8_analyze wsX0_makeRounds := goodIn_r _ [25, 26, 27, 28, 29, 30, 9, 31, 32, 33, 11, 34, 35, 36, 37, 38, 39, 40, 41, 42, 43, 44, 45, 46, 47, 48, 49, 50, 51, 52, 53, 54, 55, 56, 57, 58, 59, 60, 61, 62, 63, 64, 65, 66, 67, 68, 69, 70, 71, 72, 73, 74, 75, 76, 77, 78, 79, 80, 81, 82, 83, 84, 85, 86, 87, 88, 89, 90, 91, 92, 93, 94, 95, 96, 15, 97, 20, 18, 98, 21, 99, 100, 101, 102, 103, 104, 105, 106, 107, 108, 109, 110, 111, 112, 113, 114, 115, 116, 117, 118, 119, 120, 121, 122, 123, 124, 125, 126, 127, 128, 129, 130, 131, 132, 133, 134, 135, 136, 137, 138, 139, 140, 141, 142, 143, 144, 145, 146, 147, 148, 149, 150, 151, 152, 153, 154, 155, 156, 157, 158, 159, 160, 161, 162, 163, 164, 165, 166, 167, 168, 169, 170, 171, 203, 204, 205, 193, 194, 195, 200, 201, 202, 196, 197, 198, 199, 189, 190, 191, 192, 206, 207, 208, 209, 210, 211, 212, 213, 214, 215] (by decide +kernel) (by decide +kernel)
set_option maxRecDepth 20000 in
theorem gX8_analyze_X0_makeRounds : GoodIn wsX8_analyze (wsV RX8 141 RX0 yX0_makeRounds wsX0_makeRounds) := goodIn_app (goodIn_of _ (by decide +kernel)) ggX8_analyze_X0_makeRounds
set_option maxRecDepth 20000 in
theorem ggX8_analyze_X0_makeNarrowings : GoodIn wsX8_analyze wsX0_makeNarrowings := goodIn_r _ [175, 27, 176, 177, 178, 9, 179, 11, 35, 33, 32, 38, 39, 40, 41, 42, 43, 44, 45, 46, 47, 48, 49, 50, 51, 52, 53, 54, 55, 56, 57, 58, 59, 60, 61, 62, 63, 64, 65, 66, 67, 68, 69, 180, 181, 182, 183, 94, 95, 96, 15, 97, 20, 18, 98, 21, 99, 100, 101, 102, 103, 104, 105, 106, 107, 108, 109, 110, 111, 112, 113, 114, 115, 116, 117, 118, 119, 120, 121, 122, 123, 124, 125, 126, 127, 128, 129, 130, 131, 132, 133, 134, 135, 136, 137, 138, 139, 140, 141, 142, 143, 144, 145, 146, 147, 148, 149, 150, 151, 152, 153, 154, 155, 156, 157, 158, 159, 160, 161, 162, 163, 164, 165, 166, 167, 168, 169, 170, 171, 203, 204, 205, 193, 194, 195, 196, 197, 198, 199, 200, 201, 202, 206, 207, 208, 209, 210, 211, 212, 213, 214, 215] (by decide +kernel) (by decide +kernel)
set_option maxRecDepth 20000 in
theorem gX8_analyze_X0_makeNarrowings : GoodIn wsX8_analyze (wsV RX8 145 RX0 yX0_makeNarrowings wsX0_makeNarrowings) := goodIn_app (goodIn_of _ (by decide +kernel)) ggX8_analyze_X0_makeNarrowings
theorem dX8_analyze_0 : decode cX8_analyze 0 = .ok (.aload_n 0, 1) := by decide +kernel
theorem dX8_analyze_1 : decode cX8_analyze 1 = .ok (.getfield 26, 3) := by decide +kernel
theorem dX8_analyze_4 : decode cX8_analyze 4 = .ok (.invokevirtual 138, 3) := by decide +kernel
theorem dX8_analyze_7 : decode cX8_analyze 7 = .ok (.aload_n 0, 1) := by decide +kernel
theorem dX8_analyze_8 : decode cX8_analyze 8 = .ok (.getfield 26, 3) := by decide +kernel
theorem dX8_analyze_11 : decode cX8_analyze 11 = .ok (.aload_n 0, 1) := by decide +kernel
theorem dX8_analyze_12 : decode cX8_analyze 12 = .ok (.getfield 10, 3) := by decide +kernel
theorem dX8_analyze_15 : decode cX8_analyze 15 = .ok (.aload_n 0, 1) := by decide +kernel
theorem dX8_analyze_16 : decode cX8_analyze 16 = .ok (.getfield 19, 3) := by decide +kernel
theorem dX8_analyze_19 : decode cX8_analyze 19 = .ok (.invokevirtual 141, 3) := by decide +kernel
theorem dX8_analyze_22 : decode cX8_analyze 22 = .ok (.istore_n 1, 1) := by decide +kernel
theorem dX8_analyze_23 : decode cX8_analyze 23 = .ok (.aload_n 0, 1) := by decide +kernel
theorem dX8_analyze_24 : decode cX8_analyze 24 = .ok (.getfield 26, 3) := by decide +kernel
theorem dX8_analyze_27 : decode cX8_analyze 27 = .ok (.aload_n 0, 1) := by decide +kernel
theorem dX8_analyze_28 : decode cX8_analyze 28 = .ok (.getfield 10, 3) := by decide +kernel
theorem dX8_analyze_31 : decode cX8_analyze 31 = .ok (.aload_n 0, 1) := by decide +kernel
theorem dX8_analyze_32 : decode cX8_analyze 32 = .ok (.getfield 19, 3) := by decide +kernel
theorem dX8_analyze_35 : decode cX8_analyze 35 = .ok (.getfield 123, 3) := by decide +kernel
theorem dX8_analyze_38 : decode cX8_analyze 38 = .ok (.invokevirtual 145, 3) := by decide +kernel
theorem dX8_analyze_41 : decode cX8_analyze 41 = .ok (.aload_n 0, 1) := by decide +kernel
theorem dX8_analyze_42 : decode cX8_analyze 42 = .ok (.iconst 1, 1) := by decide +kernel
theorem dX8_analyze_43 : decode cX8_analyze 43 = .ok (.putfield 37, 3) := by decide +kernel
theorem dX8_analyze_46 : decode cX8_analyze 46 = .ok (.iload_n 1, 1) := by decide +kernel
theorem dX8_analyze_47 : decode cX8_analyze 47 = .ok (.ireturn, 1) := by decide +kernel
theorem dX8_isAnalyzed_0 : decode cX8_isAnalyzed 0 = .ok (.aload_n 0, 1) := by decide +kernel
theorem dX8_isAnalyzed_1 : decode cX8_isAnalyzed 1 = .ok (.getfield 37, 3) := by decide +kernel
theorem dX8_isAnalyzed_4 : decode cX8_isAnalyzed 4 = .ok (.ireturn, 1) := by decide +kernel
set_option maxRecDepth 20000 in
theorem ggX8_isReachable_X8_requireAnalysis : GoodIn wsX8_isReachable wsX8_requireAnalysis := goodIn_ca (goodIn_r _ [9, 10, 11, 12, 21, 22, 23, 24, 25] (by decide +kernel) (by decide +kernel)) (goodIn_sub (fun _ h => List.mem_cons_of_mem _ (List.mem_append_left _ (List.mem_append_right _ h))) (by decide +kernel))
set_option maxRecDepth 20000 in
theorem gX8_isReachable_X8_requireAnalysis : GoodIn wsX8_isReachable (wsV RX8 149 RX8 yX8_requireAnalysis wsX8_requireAnalysis) := goodIn_app (goodIn_of _ (by decide +kernel)) ggX8_isReachable_X8_requireAnalysis
set_option maxRecDepth 20000 in
theorem ggX8_isReachable_X8_requireBlock : GoodIn wsX8_isReachable wsX8_requireBlock := goodIn_ca (goodIn_r _ [16, 17, 18, 19, 20, 21, 22, 23, 24, 25, 36, 37, 38] (by decide +kernel) (by decide +kernel)) (goodIn_sub (fun _ h => List.mem_cons_of_mem _ (List.mem_append_right _ h)) (by decide +kernel))
set_option maxRecDepth 20000 in
theorem gX8_isReachable_X8_requireBlock : GoodIn wsX8_isReachable (wsV RX8 77 RX8 yX8_requireBlock wsX8_requireBlock) := goodIn_app (goodIn_of _ (by decide +kernel)) ggX8_isReachable_X8_requireBlock
theorem dX8_isReachable_0 : decode cX8_isReachable 0 = .ok (.aload_n 0, 1) := by decide +kernel
theorem dX8_isReachable_1 : decode cX8_isReachable 1 = .ok (.invokevirtual 149, 3) := by decide +kernel
theorem dX8_isReachable_4 : decode cX8_isReachable 4 = .ok (.aload_n 0, 1) := by decide +kernel
theorem dX8_isReachable_5 : decode cX8_isReachable 5 = .ok (.iload_n 1, 1) := by decide +kernel
theorem dX8_isReachable_6 : decode cX8_isReachable 6 = .ok (.invokevirtual 77, 3) := by decide +kernel
theorem dX8_isReachable_9 : decode cX8_isReachable 9 = .ok (.aload_n 0, 1) := by decide +kernel
theorem dX8_isReachable_10 : decode cX8_isReachable 10 = .ok (.getfield 26, 3) := by decide +kernel
theorem dX8_isReachable_13 : decode cX8_isReachable 13 = .ok (.getfield 152, 3) := by decide +kernel
theorem dX8_isReachable_16 : decode cX8_isReachable 16 = .ok (.iload_n 1, 1) := by decide +kernel
theorem dX8_isReachable_17 : decode cX8_isReachable 17 = .ok (.aaload, 1) := by decide +kernel
theorem dX8_isReachable_18 : decode cX8_isReachable 18 = .ok (.getfield 156, 3) := by decide +kernel
theorem dX8_isReachable_21 : decode cX8_isReachable 21 = .ok (.getfield 161, 3) := by decide +kernel
theorem dX8_isReachable_24 : decode cX8_isReachable 24 = .ok (.ifCond .ne 7, 3) := by decide +kernel
theorem dX8_isReachable_27 : decode cX8_isReachable 27 = .ok (.iconst 1, 1) := by decide +kernel
theorem dX8_isReachable_28 : decode cX8_isReachable 28 = .ok (.goto 4, 3) := by decide +kernel
theorem dX8_isReachable_31 : decode cX8_isReachable 31 = .ok (.iconst 0, 1) := by decide +kernel
theorem dX8_isReachable_32 : decode cX8_isReachable 32 = .ok (.ireturn, 1) := by decide +kernel
set_option maxRecDepth 20000 in
theorem ggX8_entry_X8_requireAnalysis : GoodIn wsX8_entry wsX8_requireAnalysis := goodIn_ca (goodIn_r _ [8, 9, 10, 11, 31, 32, 33, 34, 35] (by decide +kernel) (by decide +kernel)) (goodIn_sub (fun _ h => List.mem_cons_of_mem _ (List.mem_append_left _ (List.mem_append_left _ (List.mem_append_right _ h)))) (by decide +kernel))
set_option maxRecDepth 20000 in
theorem gX8_entry_X8_requireAnalysis : GoodIn wsX8_entry (wsV RX8 149 RX8 yX8_requireAnalysis wsX8_requireAnalysis) := goodIn_app (goodIn_of _ (by decide +kernel)) ggX8_entry_X8_requireAnalysis
set_option maxRecDepth 20000 in
theorem ggX8_entry_X8_requireBlock : GoodIn wsX8_entry wsX8_requireBlock := goodIn_ca (goodIn_r _ [15, 16, 17, 18, 19, 31, 32, 33, 34, 35, 43, 44, 45] (by decide +kernel) (by decide +kernel)) (goodIn_sub (fun _ h => List.mem_cons_of_mem _ (List.mem_append_left _ (List.mem_append_right _ h))) (by decide +kernel))
set_option maxRecDepth 20000 in
theorem gX8_entry_X8_requireBlock : GoodIn wsX8_entry (wsV RX8 77 RX8 yX8_requireBlock wsX8_requireBlock) := goodIn_app (goodIn_of _ (by decide +kernel)) ggX8_entry_X8_requireBlock
set_option maxRecDepth 20000 in
theorem ggX8_entry_X8_requireVariable : GoodIn wsX8_entry wsX8_requireVariable := goodIn_ca (goodIn_r _ [22, 16, 17] (by decide +kernel) (by decide +kernel)) (goodIn_sub (fun _ h => List.mem_cons_of_mem _ (List.mem_append_left _ (List.mem_append_right _ h))) (by decide +kernel))
set_option maxRecDepth 20000 in
theorem gX8_entry_X8_requireVariable : GoodIn wsX8_entry (va_wsS RX8 52 yX8_requireVariable wsX8_requireVariable) := goodIn_app (goodIn_of _ (by decide +kernel)) ggX8_entry_X8_requireVariable
set_option maxRecDepth 20000 in
theorem ggX8_entry_X8_endOfRange : GoodIn wsX8_entry wsX8_endOfRange := goodIn_ca (goodIn_r _ [25, 26, 27, 28, 29, 30, 46, 47, 48] (by decide +kernel) (by decide +kernel)) (goodIn_sub (fun _ h => List.mem_cons_of_mem _ (List.mem_append_right _ h)) (by decide +kernel))
set_option maxRecDepth 20000 in
theorem gX8_entry_X8_endOfRange : GoodIn wsX8_entry (va_wsS RX8 164 yX8_endOfRange wsX8_endOfRange) := goodIn_app (goodIn_of _ (by decide +kernel)) ggX8_entry_X8_endOfRange
theorem dX8_entry_0 : decode cX8_entry 0 = .ok (.aload_n 0, 1) := by decide +kernel
theorem dX8_entry_1 : decode cX8_entry 1 = .ok (.invokevirtual 149, 3) := by decide +kernel
theorem dX8_entry_4 : decode cX8_entry 4 = .ok (.aload_n 0, 1) := by decide +kernel
theorem dX8_entry_5 : decode cX8_entry 5 = .ok (.iload_n 1, 1) := by decide +kernel
theorem dX8_entry_6 : decode cX8_entry 6 = .ok (.invokevirtual 77, 3) := by decide +kernel
theorem dX8_entry_9 : decode cX8_entry 9 = .ok (.iload_n 2, 1) := by decide +kernel
theorem dX8_entry_10 : decode cX8_entry 10 = .ok (.invokestatic 52, 3) := by decide +kernel
theorem dX8_entry_13 : decode cX8_entry 13 = .ok (.aload_n 0, 1) := by decide +kernel
theorem dX8_entry_14 : decode cX8_entry 14 = .ok (.getfield 26, 3) := by decide +kernel
theorem dX8_entry_17 : decode cX8_entry 17 = .ok (.getfield 152, 3) := by decide +kernel
theorem dX8_entry_20 : decode cX8_entry 20 = .ok (.iload_n 1, 1) := by decide +kernel
theorem dX8_entry_21 : decode cX8_entry 21 = .ok (.aaload, 1) := by decide +kernel
theorem dX8_entry_22 : decode cX8_entry 22 = .ok (.getfield 156, 3) := by decide +kernel
theorem dX8_entry_25 : decode cX8_entry 25 = .ok (.iload_n 2, 1) := by decide +kernel
theorem dX8_entry_26 : decode cX8_entry 26 = .ok (.iload_n 3, 1) := by decide +kernel
theorem dX8_entry_27 : decode cX8_entry 27 = .ok (.invokestatic 164, 3) := by decide +kernel
theorem dX8_entry_30 : decode cX8_entry 30 = .ok (.ireturn, 1) := by decide +kernel
set_option maxRecDepth 20000 in
theorem ggX8_exit_X8_requireAnalysis : GoodIn wsX8_exit wsX8_requireAnalysis := goodIn_ca (goodIn_r _ [8, 9, 10, 11, 31, 32, 33, 34, 35] (by decide +kernel) (by decide +kernel)) (goodIn_sub (fun _ h => List.mem_cons_of_mem _ (List.mem_append_left _ (List.mem_append_left _ (List.mem_append_right _ h)))) (by decide +kernel))
set_option maxRecDepth 20000 in
theorem gX8_exit_X8_requireAnalysis : GoodIn wsX8_exit (wsV RX8 149 RX8 yX8_requireAnalysis wsX8_requireAnalysis) := goodIn_app (goodIn_of _ (by decide +kernel)) ggX8_exit_X8_requireAnalysis
set_option maxRecDepth 20000 in
theorem ggX8_exit_X8_requireBlock : GoodIn wsX8_exit wsX8_requireBlock := goodIn_ca (goodIn_r _ [15, 16, 17, 18, 19, 31, 32, 33, 34, 35, 43, 44, 45] (by decide +kernel) (by decide +kernel)) (goodIn_sub (fun _ h => List.mem_cons_of_mem _ (List.mem_append_left _ (List.mem_append_right _ h))) (by decide +kernel))
set_option maxRecDepth 20000 in
theorem gX8_exit_X8_requireBlock : GoodIn wsX8_exit (wsV RX8 77 RX8 yX8_requireBlock wsX8_requireBlock) := goodIn_app (goodIn_of _ (by decide +kernel)) ggX8_exit_X8_requireBlock
set_option maxRecDepth 20000 in
theorem ggX8_exit_X8_requireVariable : GoodIn wsX8_exit wsX8_requireVariable := goodIn_ca (goodIn_r _ [22, 16, 17] (by decide +kernel) (by decide +kernel)) (goodIn_sub (fun _ h => List.mem_cons_of_mem _ (List.mem_append_left _ (List.mem_append_right _ h))) (by decide +kernel))
set_option maxRecDepth 20000 in
theorem gX8_exit_X8_requireVariable : GoodIn wsX8_exit (va_wsS RX8 52 yX8_requireVariable wsX8_requireVariable) := goodIn_app (goodIn_of _ (by decide +kernel)) ggX8_exit_X8_requireVariable
set_option maxRecDepth 20000 in
theorem ggX8_exit_X8_endOfRange : GoodIn wsX8_exit wsX8_endOfRange := goodIn_ca (goodIn_r _ [25, 26, 27, 28, 29, 30, 46, 47, 48] (by decide +kernel) (by decide +kernel)) (goodIn_sub (fun _ h => List.mem_cons_of_mem _ (List.mem_append_right _ h)) (by decide +kernel))
set_option maxRecDepth 20000 in
theorem gX8_exit_X8_endOfRange : GoodIn wsX8_exit (va_wsS RX8 164 yX8_endOfRange wsX8_endOfRange) := goodIn_app (goodIn_of _ (by decide +kernel)) ggX8_exit_X8_endOfRange
theorem dX8_exit_0 : decode cX8_exit 0 = .ok (.aload_n 0, 1) := by decide +kernel
theorem dX8_exit_1 : decode cX8_exit 1 = .ok (.invokevirtual 149, 3) := by decide +kernel
theorem dX8_exit_4 : decode cX8_exit 4 = .ok (.aload_n 0, 1) := by decide +kernel
theorem dX8_exit_5 : decode cX8_exit 5 = .ok (.iload_n 1, 1) := by decide +kernel
theorem dX8_exit_6 : decode cX8_exit 6 = .ok (.invokevirtual 77, 3) := by decide +kernel
theorem dX8_exit_9 : decode cX8_exit 9 = .ok (.iload_n 2, 1) := by decide +kernel
theorem dX8_exit_10 : decode cX8_exit 10 = .ok (.invokestatic 52, 3) := by decide +kernel
theorem dX8_exit_13 : decode cX8_exit 13 = .ok (.aload_n 0, 1) := by decide +kernel
theorem dX8_exit_14 : decode cX8_exit 14 = .ok (.getfield 26, 3) := by decide +kernel
theorem dX8_exit_17 : decode cX8_exit 17 = .ok (.getfield 152, 3) := by decide +kernel
theorem dX8_exit_20 : decode cX8_exit 20 = .ok (.iload_n 1, 1) := by decide +kernel
theorem dX8_exit_21 : decode cX8_exit 21 = .ok (.aaload, 1) := by decide +kernel
theorem dX8_exit_22 : decode cX8_exit 22 = .ok (.getfield 168, 3) := by decide +kernel
theorem dX8_exit_25 : decode cX8_exit 25 = .ok (.iload_n 2, 1) := by decide +kernel
theorem dX8_exit_26 : decode cX8_exit 26 = .ok (.iload_n 3, 1) := by decide +kernel
theorem dX8_exit_27 : decode cX8_exit 27 = .ok (.invokestatic 164, 3) := by decide +kernel
theorem dX8_exit_30 : decode cX8_exit 30 = .ok (.ireturn, 1) := by decide +kernel
set_option maxRecDepth 20000 in
theorem ggX8_isDead_X8_requireAnalysis : GoodIn wsX8_isDead wsX8_requireAnalysis := goodIn_ca (goodIn_r _ [14, 15, 16, 17, 23, 24, 25, 26, 27] (by decide +kernel) (by decide +kernel)) (goodIn_sub (fun _ h => List.mem_cons_of_mem _ (List.mem_append_right _ h)) (by decide +kernel))
set_option maxRecDepth 20000 in
theorem gX8_isDead_X8_requireAnalysis : GoodIn wsX8_isDead (wsV RX8 149 RX8 yX8_requireAnalysis wsX8_requireAnalysis) := goodIn_app (goodIn_of _ (by decide +kernel)) ggX8_isDead_X8_requireAnalysis
set_option maxRecDepth 20000 in
theorem ggX8_isDead_X8_requireBlock : GoodIn wsX8_isDead wsX8_requireBlock := goodIn_ca (goodIn_r _ [21, 1, 2, 3, 22, 23, 24, 25, 26, 27, 28, 29, 30] (by decide +kernel) (by decide +kernel)) (goodIn_sub (fun _ h => List.mem_cons_of_mem _ (List.mem_append_left _ (List.mem_append_right _ h))) (by decide +kernel))
set_option maxRecDepth 20000 in
theorem gX8_isDead_X8_requireBlock : GoodIn wsX8_isDead (wsV RX8 77 RX8 yX8_requireBlock wsX8_requireBlock) := goodIn_app (goodIn_of _ (by decide +kernel)) ggX8_isDead_X8_requireBlock
theorem dX8_isDead_0 : decode cX8_isDead 0 = .ok (.aload_n 0, 1) := by decide +kernel
theorem dX8_isDead_1 : decode cX8_isDead 1 = .ok (.invokevirtual 149, 3) := by decide +kernel
theorem dX8_isDead_4 : decode cX8_isDead 4 = .ok (.aload_n 0, 1) := by decide +kernel
theorem dX8_isDead_5 : decode cX8_isDead 5 = .ok (.iload_n 1, 1) := by decide +kernel
theorem dX8_isDead_6 : decode cX8_isDead 6 = .ok (.invokevirtual 77, 3) := by decide +kernel
theorem dX8_isDead_9 : decode cX8_isDead 9 = .ok (.iload_n 2, 1) := by decide +kernel
theorem dX8_isDead_10 : decode cX8_isDead 10 = .ok (.ifCond .lt 19, 3) := by decide +kernel
theorem dX8_isDead_13 : decode cX8_isDead 13 = .ok (.iload_n 2, 1) := by decide +kernel
theorem dX8_isDead_14 : decode cX8_isDead 14 = .ok (.aload_n 0, 1) := by decide +kernel
theorem dX8_isDead_15 : decode cX8_isDead 15 = .ok (.getfield 10, 3) := by decide +kernel
theorem dX8_isDead_18 : decode cX8_isDead 18 = .ok (.getfield 83, 3) := by decide +kernel
theorem dX8_isDead_21 : decode cX8_isDead 21 = .ok (.iload_n 1, 1) := by decide +kernel
theorem dX8_isDead_22 : decode cX8_isDead 22 = .ok (.aaload, 1) := by decide +kernel
theorem dX8_isDead_23 : decode cX8_isDead 23 = .ok (.getfield 98, 3) := by decide +kernel
theorem dX8_isDead_26 : decode cX8_isDead 26 = .ok (.if_icmp .lt 13, 3) := by decide +kernel
theorem dX8_isDead_29 : decode cX8_isDead 29 = .ok (.new 171, 3) := by decide +kernel
theorem dX8_isDead_32 : decode cX8_isDead 32 = .ok (.dup, 1) := by decide +kernel
theorem dX8_isDead_33 : decode cX8_isDead 33 = .ok (.ldc 173, 2) := by decide +kernel
theorem dX8_isDead_35 : decode cX8_isDead 35 = .ok (.invokespecial 175, 3) := by decide +kernel
theorem dX8_isDead_38 : decode cX8_isDead 38 = .ok (.athrow, 1) := by decide +kernel
theorem dX8_isDead_39 : decode cX8_isDead 39 = .ok (.aload_n 0, 1) := by decide +kernel
theorem dX8_isDead_40 : decode cX8_isDead 40 = .ok (.getfield 26, 3) := by decide +kernel
theorem dX8_isDead_43 : decode cX8_isDead 43 = .ok (.getfield 152, 3) := by decide +kernel
theorem dX8_isDead_46 : decode cX8_isDead 46 = .ok (.iload_n 1, 1) := by decide +kernel
theorem dX8_isDead_47 : decode cX8_isDead 47 = .ok (.aaload, 1) := by decide +kernel
theorem dX8_isDead_48 : decode cX8_isDead 48 = .ok (.getfield 176, 3) := by decide +kernel
theorem dX8_isDead_51 : decode cX8_isDead 51 = .ok (.iload_n 2, 1) := by decide +kernel
theorem dX8_isDead_52 : decode cX8_isDead 52 = .ok (.aaload, 1) := by decide +kernel
theorem dX8_isDead_53 : decode cX8_isDead 53 = .ok (.getfield 161, 3) := by decide +kernel
theorem dX8_isDead_56 : decode cX8_isDead 56 = .ok (.ireturn, 1) := by decide +kernel
set_option maxRecDepth 20000 in
theorem ggX8_deadEdges_X8_requireAnalysis : GoodIn wsX8_deadEdges wsX8_requireAnalysis := goodIn_ca (goodIn_r _ [11, 12, 13, 14, 23, 24, 25, 26, 27] (by decide +kernel) (by decide +kernel)) (goodIn_sub (fun _ h => List.mem_cons_of_mem _ (List.mem_append_right _ h)) (by decide +kernel))
set_option maxRecDepth 20000 in
theorem gX8_deadEdges_X8_requireAnalysis : GoodIn wsX8_deadEdges (wsV RX8 149 RX8 yX8_requireAnalysis wsX8_requireAnalysis) := goodIn_app (goodIn_of _ (by decide +kernel)) ggX8_deadEdges_X8_requireAnalysis
set_option maxRecDepth 20000 in
theorem ggX8_deadEdges_X4_countDeadEdges : GoodIn wsX8_deadEdges wsX4_countDeadEdges := goodIn_r _ [19, 20, 21, 22, 44, 45, 46, 47, 48, 49, 50] (by decide +kernel) (by decide +kernel)
set_option maxRecDepth 20000 in
theorem gX8_deadEdges_X4_countDeadEdges : GoodIn wsX8_deadEdges (wsV RX8 180 RX4 yX4_countDeadEdges wsX4_countDeadEdges) := goodIn_app (goodIn_of _ (by decide +kernel)) ggX8_deadEdges_X4_countDeadEdges
theorem dX8_deadEdges_0 : decode cX8_deadEdges 0 = .ok (.aload_n 0, 1) := by decide +kernel
theorem dX8_deadEdges_1 : decode cX8_deadEdges 1 = .ok (.invokevirtual 149, 3) := by decide +kernel
theorem dX8_deadEdges_4 : decode cX8_deadEdges 4 = .ok (.iconst 0, 1) := by decide +kernel
theorem dX8_deadEdges_5 : decode cX8_deadEdges 5 = .ok (.istore_n 1, 1) := by decide +kernel
theorem dX8_deadEdges_6 : decode cX8_deadEdges 6 = .ok (.iconst 0, 1) := by decide +kernel
theorem dX8_deadEdges_7 : decode cX8_deadEdges 7 = .ok (.istore_n 2, 1) := by decide +kernel
theorem dX8_deadEdges_8 : decode cX8_deadEdges 8 = .ok (.iload_n 2, 1) := by decide +kernel
theorem dX8_deadEdges_9 : decode cX8_deadEdges 9 = .ok (.aload_n 0, 1) := by decide +kernel
theorem dX8_deadEdges_10 : decode cX8_deadEdges 10 = .ok (.getfield 10, 3) := by decide +kernel
theorem dX8_deadEdges_13 : decode cX8_deadEdges 13 = .ok (.getfield 41, 3) := by decide +kernel
theorem dX8_deadEdges_16 : decode cX8_deadEdges 16 = .ok (.if_icmp .ge 36, 3) := by decide +kernel
theorem dX8_deadEdges_19 : decode cX8_deadEdges 19 = .ok (.iload_n 1, 1) := by decide +kernel
theorem dX8_deadEdges_20 : decode cX8_deadEdges 20 = .ok (.aload_n 0, 1) := by decide +kernel
theorem dX8_deadEdges_21 : decode cX8_deadEdges 21 = .ok (.getfield 26, 3) := by decide +kernel
theorem dX8_deadEdges_24 : decode cX8_deadEdges 24 = .ok (.getfield 152, 3) := by decide +kernel
theorem dX8_deadEdges_27 : decode cX8_deadEdges 27 = .ok (.iload_n 2, 1) := by decide +kernel
theorem dX8_deadEdges_28 : decode cX8_deadEdges 28 = .ok (.aaload, 1) := by decide +kernel
theorem dX8_deadEdges_29 : decode cX8_deadEdges 29 = .ok (.aload_n 0, 1) := by decide +kernel
theorem dX8_deadEdges_30 : decode cX8_deadEdges 30 = .ok (.getfield 10, 3) := by decide +kernel
theorem dX8_deadEdges_33 : decode cX8_deadEdges 33 = .ok (.getfield 83, 3) := by decide +kernel
theorem dX8_deadEdges_36 : decode cX8_deadEdges 36 = .ok (.iload_n 2, 1) := by decide +kernel
theorem dX8_deadEdges_37 : decode cX8_deadEdges 37 = .ok (.aaload, 1) := by decide +kernel
theorem dX8_deadEdges_38 : decode cX8_deadEdges 38 = .ok (.getfield 98, 3) := by decide +kernel
theorem dX8_deadEdges_41 : decode cX8_deadEdges 41 = .ok (.invokevirtual 180, 3) := by decide +kernel
theorem dX8_deadEdges_44 : decode cX8_deadEdges 44 = .ok (.iadd, 1) := by decide +kernel
theorem dX8_deadEdges_45 : decode cX8_deadEdges 45 = .ok (.istore_n 1, 1) := by decide +kernel
theorem dX8_deadEdges_46 : decode cX8_deadEdges 46 = .ok (.iinc 2 1, 3) := by decide +kernel
theorem dX8_deadEdges_49 : decode cX8_deadEdges 49 = .ok (.goto (-41), 3) := by decide +kernel
theorem dX8_deadEdges_52 : decode cX8_deadEdges 52 = .ok (.iload_n 1, 1) := by decide +kernel
theorem dX8_deadEdges_53 : decode cX8_deadEdges 53 = .ok (.ireturn, 1) := by decide +kernel
set_option maxRecDepth 20000 in
theorem ggX8_constants_X8_requireAnalysis : GoodIn wsX8_constants wsX8_requireAnalysis := goodIn_ca (goodIn_r _ [8, 9, 10, 11, 32, 33, 34, 35, 36] (by decide +kernel) (by decide +kernel)) (goodIn_sub (fun _ h => List.mem_cons_of_mem _ (List.mem_append_left _ (List.mem_append_right _ h))) (by decide +kernel))
set_option maxRecDepth 20000 in
theorem gX8_constants_X8_requireAnalysis : GoodIn wsX8_constants (wsV RX8 149 RX8 yX8_requireAnalysis wsX8_requireAnalysis) := goodIn_app (goodIn_of _ (by decide +kernel)) ggX8_constants_X8_requireAnalysis
set_option maxRecDepth 20000 in
theorem ggX8_constants_X8_requireBlock : GoodIn wsX8_constants wsX8_requireBlock := goodIn_ca (goodIn_r _ [15, 16, 17, 18, 19, 32, 33, 34, 35, 36, 44, 45, 46] (by decide +kernel) (by decide +kernel)) (goodIn_sub (fun _ h => List.mem_cons_of_mem _ (List.mem_append_right _ h)) (by decide +kernel))
set_option maxRecDepth 20000 in
theorem gX8_constants_X8_requireBlock : GoodIn wsX8_constants (wsV RX8 77 RX8 yX8_requireBlock wsX8_requireBlock) := goodIn_app (goodIn_of _ (by decide +kernel)) ggX8_constants_X8_requireBlock
set_option maxRecDepth 20000 in
theorem ggX8_constants_X7_countConstants : GoodIn wsX8_constants wsX7_countConstants := goodIn_r _ [24, 25, 26, 27, 28, 23, 29, 30, 31, 47, 48, 49] (by decide +kernel) (by decide +kernel)
set_option maxRecDepth 20000 in
theorem gX8_constants_X7_countConstants : GoodIn wsX8_constants (wsV RX8 184 RX7 yX7_countConstants wsX7_countConstants) := goodIn_app (goodIn_of _ (by decide +kernel)) ggX8_constants_X7_countConstants
theorem dX8_constants_0 : decode cX8_constants 0 = .ok (.aload_n 0, 1) := by decide +kernel
theorem dX8_constants_1 : decode cX8_constants 1 = .ok (.invokevirtual 149, 3) := by decide +kernel
theorem dX8_constants_4 : decode cX8_constants 4 = .ok (.aload_n 0, 1) := by decide +kernel
theorem dX8_constants_5 : decode cX8_constants 5 = .ok (.iload_n 1, 1) := by decide +kernel
theorem dX8_constants_6 : decode cX8_constants 6 = .ok (.invokevirtual 77, 3) := by decide +kernel
theorem dX8_constants_9 : decode cX8_constants 9 = .ok (.aload_n 0, 1) := by decide +kernel
theorem dX8_constants_10 : decode cX8_constants 10 = .ok (.getfield 26, 3) := by decide +kernel
theorem dX8_constants_13 : decode cX8_constants 13 = .ok (.getfield 152, 3) := by decide +kernel
theorem dX8_constants_16 : decode cX8_constants 16 = .ok (.iload_n 1, 1) := by decide +kernel
theorem dX8_constants_17 : decode cX8_constants 17 = .ok (.aaload, 1) := by decide +kernel
theorem dX8_constants_18 : decode cX8_constants 18 = .ok (.getfield 168, 3) := by decide +kernel
theorem dX8_constants_21 : decode cX8_constants 21 = .ok (.invokevirtual 184, 3) := by decide +kernel
theorem dX8_constants_24 : decode cX8_constants 24 = .ok (.ireturn, 1) := by decide +kernel
set_option maxRecDepth 20000 in
theorem ggX8_visits_X8_requireAnalysis : GoodIn wsX8_visits wsX8_requireAnalysis := goodIn_ca (goodIn_r _ [8, 9, 10, 11, 20, 21, 22, 23, 24] (by decide +kernel) (by decide +kernel)) (goodIn_sub (fun _ h => List.mem_cons_of_mem _ (List.mem_append_left _ (List.mem_append_right _ h))) (by decide +kernel))
set_option maxRecDepth 20000 in
theorem gX8_visits_X8_requireAnalysis : GoodIn wsX8_visits (wsV RX8 149 RX8 yX8_requireAnalysis wsX8_requireAnalysis) := goodIn_app (goodIn_of _ (by decide +kernel)) ggX8_visits_X8_requireAnalysis
set_option maxRecDepth 20000 in
theorem ggX8_visits_X8_requireBlock : GoodIn wsX8_visits wsX8_requireBlock := goodIn_ca (goodIn_r _ [15, 16, 17, 18, 19, 20, 21, 22, 23, 24, 32, 33, 34] (by decide +kernel) (by decide +kernel)) (goodIn_sub (fun _ h => List.mem_cons_of_mem _ (List.mem_append_right _ h)) (by decide +kernel))
set_option maxRecDepth 20000 in
theorem gX8_visits_X8_requireBlock : GoodIn wsX8_visits (wsV RX8 77 RX8 yX8_requireBlock wsX8_requireBlock) := goodIn_app (goodIn_of _ (by decide +kernel)) ggX8_visits_X8_requireBlock
theorem dX8_visits_0 : decode cX8_visits 0 = .ok (.aload_n 0, 1) := by decide +kernel
theorem dX8_visits_1 : decode cX8_visits 1 = .ok (.invokevirtual 149, 3) := by decide +kernel
theorem dX8_visits_4 : decode cX8_visits 4 = .ok (.aload_n 0, 1) := by decide +kernel
theorem dX8_visits_5 : decode cX8_visits 5 = .ok (.iload_n 1, 1) := by decide +kernel
theorem dX8_visits_6 : decode cX8_visits 6 = .ok (.invokevirtual 77, 3) := by decide +kernel
theorem dX8_visits_9 : decode cX8_visits 9 = .ok (.aload_n 0, 1) := by decide +kernel
theorem dX8_visits_10 : decode cX8_visits 10 = .ok (.getfield 26, 3) := by decide +kernel
theorem dX8_visits_13 : decode cX8_visits 13 = .ok (.getfield 152, 3) := by decide +kernel
theorem dX8_visits_16 : decode cX8_visits 16 = .ok (.iload_n 1, 1) := by decide +kernel
theorem dX8_visits_17 : decode cX8_visits 17 = .ok (.aaload, 1) := by decide +kernel
theorem dX8_visits_18 : decode cX8_visits 18 = .ok (.getfield 188, 3) := by decide +kernel
theorem dX8_visits_21 : decode cX8_visits 21 = .ok (.ireturn, 1) := by decide +kernel
set_option maxRecDepth 20000 in
theorem ggX8_run_X3_execute : GoodIn wsX8_run wsX3_execute := goodIn_r _ [10, 11, 12, 13, 14, 15, 16, 17, 18, 19, 20, 21, 9, 22, 23, 24, 25, 26, 27, 28, 29, 30, 31, 32, 33, 34, 35, 36, 37, 38, 39, 40, 41, 42, 43, 44, 45, 46, 47, 48, 49, 50, 51, 52, 53, 54, 55, 56, 57, 58, 59, 60, 61, 62, 63, 64, 65, 66, 67, 68, 69, 70, 71, 72, 73, 74, 75, 76, 77, 78, 79, 80, 81, 87, 88, 89, 90, 91, 92, 93, 94, 95, 96, 97, 98, 99, 100, 101, 102, 103, 104, 105, 106, 107] (by decide +kernel) (by decide +kernel)
set_option maxRecDepth 20000 in
theorem gX8_run_X3_execute : GoodIn wsX8_run (wsV RX8 193 RX3 yX3_execute wsX3_execute) := goodIn_app (goodIn_of _ (by decide +kernel)) ggX8_run_X3_execute
theorem dX8_run_0 : decode cX8_run 0 = .ok (.iload_n 3, 1) := by decide +kernel
theorem dX8_run_1 : decode cX8_run 1 = .ok (.iconst 1, 1) := by decide +kernel
theorem dX8_run_2 : decode cX8_run 2 = .ok (.if_icmp .lt 10, 3) := by decide +kernel
theorem dX8_run_5 : decode cX8_run 5 = .ok (.iload_n 3, 1) := by decide +kernel
theorem dX8_run_6 : decode cX8_run 6 = .ok (.sipush 300, 3) := by decide +kernel
theorem dX8_run_9 : decode cX8_run 9 = .ok (.if_icmp .le 13, 3) := by decide +kernel
theorem dX8_run_12 : decode cX8_run 12 = .ok (.new 93, 3) := by decide +kernel
theorem dX8_run_15 : decode cX8_run 15 = .ok (.dup, 1) := by decide +kernel
theorem dX8_run_16 : decode cX8_run 16 = .ok (.ldc 191, 2) := by decide +kernel
theorem dX8_run_18 : decode cX8_run 18 = .ok (.invokespecial 97, 3) := by decide +kernel
theorem dX8_run_21 : decode cX8_run 21 = .ok (.athrow, 1) := by decide +kernel
theorem dX8_run_22 : decode cX8_run 22 = .ok (.aload_n 0, 1) := by decide +kernel
theorem dX8_run_23 : decode cX8_run 23 = .ok (.getfield 33, 3) := by decide +kernel
theorem dX8_run_26 : decode cX8_run 26 = .ok (.aload_n 0, 1) := by decide +kernel
theorem dX8_run_27 : decode cX8_run 27 = .ok (.getfield 10, 3) := by decide +kernel
theorem dX8_run_30 : decode cX8_run 30 = .ok (.lload_n 1, 1) := by decide +kernel
theorem dX8_run_31 : decode cX8_run 31 = .ok (.iload_n 3, 1) := by decide +kernel
theorem dX8_run_32 : decode cX8_run 32 = .ok (.invokevirtual 193, 3) := by decide +kernel
theorem dX8_run_35 : decode cX8_run 35 = .ok (.aload_n 0, 1) := by decide +kernel
theorem dX8_run_36 : decode cX8_run 36 = .ok (.getfield 33, 3) := by decide +kernel
theorem dX8_run_39 : decode cX8_run 39 = .ok (.getfield 197, 3) := by decide +kernel
theorem dX8_run_42 : decode cX8_run 42 = .ok (.ireturn, 1) := by decide +kernel
set_option maxRecDepth 20000 in
theorem ggX8_enteredBlock_X8_requireStep : GoodIn wsX8_enteredBlock wsX8_requireStep := goodIn_ca (goodIn_r _ [7, 8, 9, 1, 10, 11, 12, 13, 14, 15, 16, 17, 18, 19, 20] (by decide +kernel) (by decide +kernel)) (goodIn_sub (fun _ h => List.mem_cons_of_mem _ (List.mem_append_right _ h)) (by decide +kernel))
set_option maxRecDepth 20000 in
theorem gX8_enteredBlock_X8_requireStep : GoodIn wsX8_enteredBlock (wsV RX8 200 RX8 yX8_requireStep wsX8_requireStep) := goodIn_app (goodIn_of _ (by decide +kernel)) ggX8_enteredBlock_X8_requireStep
theorem dX8_enteredBlock_0 : decode cX8_enteredBlock 0 = .ok (.aload_n 0, 1) := by decide +kernel
theorem dX8_enteredBlock_1 : decode cX8_enteredBlock 1 = .ok (.iload_n 1, 1) := by decide +kernel
theorem dX8_enteredBlock_2 : decode cX8_enteredBlock 2 = .ok (.invokevirtual 200, 3) := by decide +kernel
theorem dX8_enteredBlock_5 : decode cX8_enteredBlock 5 = .ok (.aload_n 0, 1) := by decide +kernel
theorem dX8_enteredBlock_6 : decode cX8_enteredBlock 6 = .ok (.getfield 33, 3) := by decide +kernel
theorem dX8_enteredBlock_9 : decode cX8_enteredBlock 9 = .ok (.getfield 203, 3) := by decide +kernel
theorem dX8_enteredBlock_12 : decode cX8_enteredBlock 12 = .ok (.iload_n 1, 1) := by decide +kernel
theorem dX8_enteredBlock_13 : decode cX8_enteredBlock 13 = .ok (.iaload, 1) := by decide +kernel
theorem dX8_enteredBlock_14 : decode cX8_enteredBlock 14 = .ok (.ireturn, 1) := by decide +kernel
set_option maxRecDepth 20000 in
theorem ggX8_enteredWith_X8_requireStep : GoodIn wsX8_enteredWith wsX8_requireStep := goodIn_ca (goodIn_r _ [7, 8, 9, 1, 10, 14, 15, 16, 17, 18, 19, 20, 21, 22, 23] (by decide +kernel) (by decide +kernel)) (goodIn_sub (fun _ h => List.mem_cons_of_mem _ (List.mem_append_right _ h)) (by decide +kernel))
set_option maxRecDepth 20000 in
theorem gX8_enteredWith_X8_requireStep : GoodIn wsX8_enteredWith (wsV RX8 200 RX8 yX8_requireStep wsX8_requireStep) := goodIn_app (goodIn_of _ (by decide +kernel)) ggX8_enteredWith_X8_requireStep
set_option maxRecDepth 20000 in
theorem ggX8_enteredWith_X8_requireVariable : GoodIn wsX8_enteredWith wsX8_requireVariable := goodIn_ca (goodIn_r _ [13, 8, 9] (by decide +kernel) (by decide +kernel)) (goodIn_sub (fun _ h => List.mem_cons_of_mem _ (List.mem_append_right _ h)) (by decide +kernel))
set_option maxRecDepth 20000 in
theorem gX8_enteredWith_X8_requireVariable : GoodIn wsX8_enteredWith (va_wsS RX8 52 yX8_requireVariable wsX8_requireVariable) := goodIn_app (goodIn_of _ (by decide +kernel)) ggX8_enteredWith_X8_requireVariable
theorem dX8_enteredWith_0 : decode cX8_enteredWith 0 = .ok (.aload_n 0, 1) := by decide +kernel
theorem dX8_enteredWith_1 : decode cX8_enteredWith 1 = .ok (.iload_n 1, 1) := by decide +kernel
theorem dX8_enteredWith_2 : decode cX8_enteredWith 2 = .ok (.invokevirtual 200, 3) := by decide +kernel
theorem dX8_enteredWith_5 : decode cX8_enteredWith 5 = .ok (.iload_n 2, 1) := by decide +kernel
theorem dX8_enteredWith_6 : decode cX8_enteredWith 6 = .ok (.invokestatic 52, 3) := by decide +kernel
theorem dX8_enteredWith_9 : decode cX8_enteredWith 9 = .ok (.aload_n 0, 1) := by decide +kernel
theorem dX8_enteredWith_10 : decode cX8_enteredWith 10 = .ok (.getfield 33, 3) := by decide +kernel
theorem dX8_enteredWith_13 : decode cX8_enteredWith 13 = .ok (.getfield 206, 3) := by decide +kernel
theorem dX8_enteredWith_16 : decode cX8_enteredWith 16 = .ok (.iload_n 1, 1) := by decide +kernel
theorem dX8_enteredWith_17 : decode cX8_enteredWith 17 = .ok (.bipush 6, 2) := by decide +kernel
theorem dX8_enteredWith_19 : decode cX8_enteredWith 19 = .ok (.imul, 1) := by decide +kernel
theorem dX8_enteredWith_20 : decode cX8_enteredWith 20 = .ok (.iload_n 2, 1) := by decide +kernel
theorem dX8_enteredWith_21 : decode cX8_enteredWith 21 = .ok (.iadd, 1) := by decide +kernel
theorem dX8_enteredWith_22 : decode cX8_enteredWith 22 = .ok (.iaload, 1) := by decide +kernel
theorem dX8_enteredWith_23 : decode cX8_enteredWith 23 = .ok (.ireturn, 1) := by decide +kernel
set_option maxRecDepth 20000 in
theorem ggX8_result_X8_requireVariable : GoodIn wsX8_result wsX8_requireVariable := goodIn_ca (goodIn_r _ [6, 7, 8] (by decide +kernel) (by decide +kernel)) (goodIn_sub (fun _ h => List.mem_cons_of_mem _ (List.mem_append_right _ h)) (by decide +kernel))
set_option maxRecDepth 20000 in
theorem gX8_result_X8_requireVariable : GoodIn wsX8_result (va_wsS RX8 52 yX8_requireVariable wsX8_requireVariable) := goodIn_app (goodIn_of _ (by decide +kernel)) ggX8_result_X8_requireVariable
theorem dX8_result_0 : decode cX8_result 0 = .ok (.iload_n 1, 1) := by decide +kernel
theorem dX8_result_1 : decode cX8_result 1 = .ok (.invokestatic 52, 3) := by decide +kernel
theorem dX8_result_4 : decode cX8_result 4 = .ok (.aload_n 0, 1) := by decide +kernel
theorem dX8_result_5 : decode cX8_result 5 = .ok (.getfield 33, 3) := by decide +kernel
theorem dX8_result_8 : decode cX8_result 8 = .ok (.getfield 209, 3) := by decide +kernel
theorem dX8_result_11 : decode cX8_result 11 = .ok (.iload_n 1, 1) := by decide +kernel
theorem dX8_result_12 : decode cX8_result 12 = .ok (.iaload, 1) := by decide +kernel
theorem dX8_result_13 : decode cX8_result 13 = .ok (.ireturn, 1) := by decide +kernel
set_option maxRecDepth 20000 in
theorem ggX8_digest_X8_digestProgram : GoodIn wsX8_digest wsX8_digestProgram := goodIn_r _ [14, 2, 15, 16, 17, 18, 19, 34, 35, 36, 37, 38, 48, 49, 50, 51, 52, 53, 54, 55, 56, 57, 58, 59, 60] (by decide +kernel) (by decide +kernel)
set_option maxRecDepth 20000 in
theorem gX8_digest_X8_digestProgram : GoodIn wsX8_digest (wsV RX8 214 RX8 yX8_digestProgram wsX8_digestProgram) := goodIn_app (goodIn_of _ (by decide +kernel)) ggX8_digest_X8_digestProgram
set_option maxRecDepth 20000 in
theorem ggX8_digest_X8_digestAnalysis : GoodIn wsX8_digest wsX8_digestAnalysis := goodIn_r _ [23, 15, 16, 24, 25, 2, 26, 27, 28, 29, 30, 13, 31, 32, 33, 34, 35, 36, 37, 38, 48, 49, 50, 61, 62, 63, 64, 65, 66, 67, 68, 69, 70] (by decide +kernel) (by decide +kernel)
set_option maxRecDepth 20000 in
theorem gX8_digest_X8_digestAnalysis : GoodIn wsX8_digest (wsV RX8 220 RX8 yX8_digestAnalysis wsX8_digestAnalysis) := goodIn_app (goodIn_of _ (by decide +kernel)) ggX8_digest_X8_digestAnalysis
theorem dX8_digest_0 : decode cX8_digest 0 = .ok (.ldc2_w 212, 3) := by decide +kernel
theorem dX8_digest_3 : decode cX8_digest 3 = .ok (.lstore_n 1, 1) := by decide +kernel
theorem dX8_digest_4 : decode cX8_digest 4 = .ok (.aload_n 0, 1) := by decide +kernel
theorem dX8_digest_5 : decode cX8_digest 5 = .ok (.lload_n 1, 1) := by decide +kernel
theorem dX8_digest_6 : decode cX8_digest 6 = .ok (.invokevirtual 214, 3) := by decide +kernel
theorem dX8_digest_9 : decode cX8_digest 9 = .ok (.lstore_n 1, 1) := by decide +kernel
theorem dX8_digest_10 : decode cX8_digest 10 = .ok (.lload_n 1, 1) := by decide +kernel
theorem dX8_digest_11 : decode cX8_digest 11 = .ok (.ldc2_w 218, 3) := by decide +kernel
theorem dX8_digest_14 : decode cX8_digest 14 = .ok (.lmul, 1) := by decide +kernel
theorem dX8_digest_15 : decode cX8_digest 15 = .ok (.aload_n 0, 1) := by decide +kernel
theorem dX8_digest_16 : decode cX8_digest 16 = .ok (.getfield 19, 3) := by decide +kernel
theorem dX8_digest_19 : decode cX8_digest 19 = .ok (.getfield 120, 3) := by decide +kernel
theorem dX8_digest_22 : decode cX8_digest 22 = .ok (.i2l, 1) := by decide +kernel
theorem dX8_digest_23 : decode cX8_digest 23 = .ok (.ladd, 1) := by decide +kernel
theorem dX8_digest_24 : decode cX8_digest 24 = .ok (.lstore_n 1, 1) := by decide +kernel
theorem dX8_digest_25 : decode cX8_digest 25 = .ok (.lload_n 1, 1) := by decide +kernel
theorem dX8_digest_26 : decode cX8_digest 26 = .ok (.ldc2_w 218, 3) := by decide +kernel
theorem dX8_digest_29 : decode cX8_digest 29 = .ok (.lmul, 1) := by decide +kernel
theorem dX8_digest_30 : decode cX8_digest 30 = .ok (.aload_n 0, 1) := by decide +kernel
theorem dX8_digest_31 : decode cX8_digest 31 = .ok (.getfield 19, 3) := by decide +kernel
theorem dX8_digest_34 : decode cX8_digest 34 = .ok (.getfield 123, 3) := by decide +kernel
theorem dX8_digest_37 : decode cX8_digest 37 = .ok (.i2l, 1) := by decide +kernel
theorem dX8_digest_38 : decode cX8_digest 38 = .ok (.ladd, 1) := by decide +kernel
theorem dX8_digest_39 : decode cX8_digest 39 = .ok (.lstore_n 1, 1) := by decide +kernel
theorem dX8_digest_40 : decode cX8_digest 40 = .ok (.lload_n 1, 1) := by decide +kernel
theorem dX8_digest_41 : decode cX8_digest 41 = .ok (.ldc2_w 218, 3) := by decide +kernel
theorem dX8_digest_44 : decode cX8_digest 44 = .ok (.lmul, 1) := by decide +kernel
theorem dX8_digest_45 : decode cX8_digest 45 = .ok (.aload_n 0, 1) := by decide +kernel
theorem dX8_digest_46 : decode cX8_digest 46 = .ok (.getfield 19, 3) := by decide +kernel
theorem dX8_digest_49 : decode cX8_digest 49 = .ok (.getfield 130, 3) := by decide +kernel
theorem dX8_digest_52 : decode cX8_digest 52 = .ok (.i2l, 1) := by decide +kernel
theorem dX8_digest_53 : decode cX8_digest 53 = .ok (.ladd, 1) := by decide +kernel
theorem dX8_digest_54 : decode cX8_digest 54 = .ok (.lstore_n 1, 1) := by decide +kernel
theorem dX8_digest_55 : decode cX8_digest 55 = .ok (.aload_n 0, 1) := by decide +kernel
theorem dX8_digest_56 : decode cX8_digest 56 = .ok (.getfield 37, 3) := by decide +kernel
theorem dX8_digest_59 : decode cX8_digest 59 = .ok (.ifCond .eq 9, 3) := by decide +kernel
theorem dX8_digest_62 : decode cX8_digest 62 = .ok (.aload_n 0, 1) := by decide +kernel
theorem dX8_digest_63 : decode cX8_digest 63 = .ok (.lload_n 1, 1) := by decide +kernel
theorem dX8_digest_64 : decode cX8_digest 64 = .ok (.invokevirtual 220, 3) := by decide +kernel
theorem dX8_digest_67 : decode cX8_digest 67 = .ok (.lstore_n 1, 1) := by decide +kernel
theorem dX8_digest_68 : decode cX8_digest 68 = .ok (.iconst 0, 1) := by decide +kernel
theorem dX8_digest_69 : decode cX8_digest 69 = .ok (.istore_n 3, 1) := by decide +kernel
theorem dX8_digest_70 : decode cX8_digest 70 = .ok (.iload_n 3, 1) := by decide +kernel
theorem dX8_digest_71 : decode cX8_digest 71 = .ok (.bipush 6, 2) := by decide +kernel
theorem dX8_digest_73 : decode cX8_digest 73 = .ok (.if_icmp .ge 26, 3) := by decide +kernel
theorem dX8_digest_76 : decode cX8_digest 76 = .ok (.lload_n 1, 1) := by decide +kernel
theorem dX8_digest_77 : decode cX8_digest 77 = .ok (.ldc2_w 218, 3) := by decide +kernel
theorem dX8_digest_80 : decode cX8_digest 80 = .ok (.lmul, 1) := by decide +kernel
theorem dX8_digest_81 : decode cX8_digest 81 = .ok (.aload_n 0, 1) := by decide +kernel
theorem dX8_digest_82 : decode cX8_digest 82 = .ok (.getfield 33, 3) := by decide +kernel
theorem dX8_digest_85 : decode cX8_digest 85 = .ok (.getfield 209, 3) := by decide +kernel
theorem dX8_digest_88 : decode cX8_digest 88 = .ok (.iload_n 3, 1) := by decide +kernel
theorem dX8_digest_89 : decode cX8_digest 89 = .ok (.iaload, 1) := by decide +kernel
theorem dX8_digest_90 : decode cX8_digest 90 = .ok (.i2l, 1) := by decide +kernel
theorem dX8_digest_91 : decode cX8_digest 91 = .ok (.ladd, 1) := by decide +kernel
theorem dX8_digest_92 : decode cX8_digest 92 = .ok (.lstore_n 1, 1) := by decide +kernel
theorem dX8_digest_93 : decode cX8_digest 93 = .ok (.iinc 3 1, 3) := by decide +kernel
theorem dX8_digest_96 : decode cX8_digest 96 = .ok (.goto (-26), 3) := by decide +kernel
theorem dX8_digest_99 : decode cX8_digest 99 = .ok (.lload_n 1, 1) := by decide +kernel
theorem dX8_digest_100 : decode cX8_digest 100 = .ok (.lreturn, 1) := by decide +kernel
theorem dX8_digestProgram_0 : decode cX8_digestProgram 0 = .ok (.lload_n 1, 1) := by decide +kernel
theorem dX8_digestProgram_1 : decode cX8_digestProgram 1 = .ok (.ldc2_w 218, 3) := by decide +kernel
theorem dX8_digestProgram_4 : decode cX8_digestProgram 4 = .ok (.lmul, 1) := by decide +kernel
theorem dX8_digestProgram_5 : decode cX8_digestProgram 5 = .ok (.aload_n 0, 1) := by decide +kernel
theorem dX8_digestProgram_6 : decode cX8_digestProgram 6 = .ok (.getfield 10, 3) := by decide +kernel
theorem dX8_digestProgram_9 : decode cX8_digestProgram 9 = .ok (.getfield 41, 3) := by decide +kernel
theorem dX8_digestProgram_12 : decode cX8_digestProgram 12 = .ok (.i2l, 1) := by decide +kernel
theorem dX8_digestProgram_13 : decode cX8_digestProgram 13 = .ok (.ladd, 1) := by decide +kernel
theorem dX8_digestProgram_14 : decode cX8_digestProgram 14 = .ok (.lstore_n 3, 1) := by decide +kernel
theorem dX8_digestProgram_15 : decode cX8_digestProgram 15 = .ok (.iconst 0, 1) := by decide +kernel
theorem dX8_digestProgram_16 : decode cX8_digestProgram 16 = .ok (.istore 5, 2) := by decide +kernel
theorem dX8_digestProgram_18 : decode cX8_digestProgram 18 = .ok (.iload 5, 2) := by decide +kernel
theorem dX8_digestProgram_20 : decode cX8_digestProgram 20 = .ok (.aload_n 0, 1) := by decide +kernel
theorem dX8_digestProgram_21 : decode cX8_digestProgram 21 = .ok (.getfield 10, 3) := by decide +kernel
theorem dX8_digestProgram_24 : decode cX8_digestProgram 24 = .ok (.getfield 41, 3) := by decide +kernel
theorem dX8_digestProgram_27 : decode cX8_digestProgram 27 = .ok (.if_icmp .ge 51, 3) := by decide +kernel
theorem dX8_digestProgram_30 : decode cX8_digestProgram 30 = .ok (.lload_n 3, 1) := by decide +kernel
theorem dX8_digestProgram_31 : decode cX8_digestProgram 31 = .ok (.ldc2_w 218, 3) := by decide +kernel
theorem dX8_digestProgram_34 : decode cX8_digestProgram 34 = .ok (.lmul, 1) := by decide +kernel
theorem dX8_digestProgram_35 : decode cX8_digestProgram 35 = .ok (.aload_n 0, 1) := by decide +kernel
theorem dX8_digestProgram_36 : decode cX8_digestProgram 36 = .ok (.getfield 10, 3) := by decide +kernel
theorem dX8_digestProgram_39 : decode cX8_digestProgram 39 = .ok (.getfield 83, 3) := by decide +kernel
theorem dX8_digestProgram_42 : decode cX8_digestProgram 42 = .ok (.iload 5, 2) := by decide +kernel
theorem dX8_digestProgram_44 : decode cX8_digestProgram 44 = .ok (.aaload, 1) := by decide +kernel
theorem dX8_digestProgram_45 : decode cX8_digestProgram 45 = .ok (.getfield 110, 3) := by decide +kernel
theorem dX8_digestProgram_48 : decode cX8_digestProgram 48 = .ok (.i2l, 1) := by decide +kernel
theorem dX8_digestProgram_49 : decode cX8_digestProgram 49 = .ok (.ladd, 1) := by decide +kernel
theorem dX8_digestProgram_50 : decode cX8_digestProgram 50 = .ok (.lstore_n 3, 1) := by decide +kernel
theorem dX8_digestProgram_51 : decode cX8_digestProgram 51 = .ok (.lload_n 3, 1) := by decide +kernel
theorem dX8_digestProgram_52 : decode cX8_digestProgram 52 = .ok (.ldc2_w 218, 3) := by decide +kernel
theorem dX8_digestProgram_55 : decode cX8_digestProgram 55 = .ok (.lmul, 1) := by decide +kernel
theorem dX8_digestProgram_56 : decode cX8_digestProgram 56 = .ok (.aload_n 0, 1) := by decide +kernel
theorem dX8_digestProgram_57 : decode cX8_digestProgram 57 = .ok (.getfield 10, 3) := by decide +kernel
theorem dX8_digestProgram_60 : decode cX8_digestProgram 60 = .ok (.getfield 83, 3) := by decide +kernel
theorem dX8_digestProgram_63 : decode cX8_digestProgram 63 = .ok (.iload 5, 2) := by decide +kernel
theorem dX8_digestProgram_65 : decode cX8_digestProgram 65 = .ok (.aaload, 1) := by decide +kernel
theorem dX8_digestProgram_66 : decode cX8_digestProgram 66 = .ok (.getfield 98, 3) := by decide +kernel
theorem dX8_digestProgram_69 : decode cX8_digestProgram 69 = .ok (.i2l, 1) := by decide +kernel
theorem dX8_digestProgram_70 : decode cX8_digestProgram 70 = .ok (.ladd, 1) := by decide +kernel
theorem dX8_digestProgram_71 : decode cX8_digestProgram 71 = .ok (.lstore_n 3, 1) := by decide +kernel
theorem dX8_digestProgram_72 : decode cX8_digestProgram 72 = .ok (.iinc 5 1, 3) := by decide +kernel
theorem dX8_digestProgram_75 : decode cX8_digestProgram 75 = .ok (.goto (-57), 3) := by decide +kernel
theorem dX8_digestProgram_78 : decode cX8_digestProgram 78 = .ok (.lload_n 3, 1) := by decide +kernel
theorem dX8_digestProgram_79 : decode cX8_digestProgram 79 = .ok (.lreturn, 1) := by decide +kernel
set_option maxRecDepth 20000 in
theorem ggX8_digestAnalysis_X8_digestRanges : GoodIn wsX8_digestAnalysis wsX8_digestRanges := goodIn_r _ [12, 5, 13, 14, 30, 31, 32] (by decide +kernel) (by decide +kernel)
set_option maxRecDepth 20000 in
theorem gX8_digestAnalysis_X8_digestRanges : GoodIn wsX8_digestAnalysis (va_wsS RX8 223 yX8_digestRanges wsX8_digestRanges) := goodIn_app (goodIn_of _ (by decide +kernel)) ggX8_digestAnalysis_X8_digestRanges
theorem dX8_digestAnalysis_0 : decode cX8_digestAnalysis 0 = .ok (.lload_n 1, 1) := by decide +kernel
theorem dX8_digestAnalysis_1 : decode cX8_digestAnalysis 1 = .ok (.lstore_n 3, 1) := by decide +kernel
theorem dX8_digestAnalysis_2 : decode cX8_digestAnalysis 2 = .ok (.iconst 0, 1) := by decide +kernel
theorem dX8_digestAnalysis_3 : decode cX8_digestAnalysis 3 = .ok (.istore 5, 2) := by decide +kernel
theorem dX8_digestAnalysis_5 : decode cX8_digestAnalysis 5 = .ok (.iload 5, 2) := by decide +kernel
theorem dX8_digestAnalysis_7 : decode cX8_digestAnalysis 7 = .ok (.aload_n 0, 1) := by decide +kernel
theorem dX8_digestAnalysis_8 : decode cX8_digestAnalysis 8 = .ok (.getfield 10, 3) := by decide +kernel
theorem dX8_digestAnalysis_11 : decode cX8_digestAnalysis 11 = .ok (.getfield 41, 3) := by decide +kernel
theorem dX8_digestAnalysis_14 : decode cX8_digestAnalysis 14 = .ok (.if_icmp .ge 55, 3) := by decide +kernel
theorem dX8_digestAnalysis_17 : decode cX8_digestAnalysis 17 = .ok (.aload_n 0, 1) := by decide +kernel
theorem dX8_digestAnalysis_18 : decode cX8_digestAnalysis 18 = .ok (.getfield 26, 3) := by decide +kernel
theorem dX8_digestAnalysis_21 : decode cX8_digestAnalysis 21 = .ok (.getfield 152, 3) := by decide +kernel
theorem dX8_digestAnalysis_24 : decode cX8_digestAnalysis 24 = .ok (.iload 5, 2) := by decide +kernel
theorem dX8_digestAnalysis_26 : decode cX8_digestAnalysis 26 = .ok (.aaload, 1) := by decide +kernel
theorem dX8_digestAnalysis_27 : decode cX8_digestAnalysis 27 = .ok (.astore 6, 2) := by decide +kernel
theorem dX8_digestAnalysis_29 : decode cX8_digestAnalysis 29 = .ok (.lload_n 3, 1) := by decide +kernel
theorem dX8_digestAnalysis_30 : decode cX8_digestAnalysis 30 = .ok (.ldc2_w 218, 3) := by decide +kernel
theorem dX8_digestAnalysis_33 : decode cX8_digestAnalysis 33 = .ok (.lmul, 1) := by decide +kernel
theorem dX8_digestAnalysis_34 : decode cX8_digestAnalysis 34 = .ok (.aload 6, 2) := by decide +kernel
theorem dX8_digestAnalysis_36 : decode cX8_digestAnalysis 36 = .ok (.getfield 188, 3) := by decide +kernel
theorem dX8_digestAnalysis_39 : decode cX8_digestAnalysis 39 = .ok (.i2l, 1) := by decide +kernel
theorem dX8_digestAnalysis_40 : decode cX8_digestAnalysis 40 = .ok (.ladd, 1) := by decide +kernel
theorem dX8_digestAnalysis_41 : decode cX8_digestAnalysis 41 = .ok (.lstore_n 3, 1) := by decide +kernel
theorem dX8_digestAnalysis_42 : decode cX8_digestAnalysis 42 = .ok (.aload 6, 2) := by decide +kernel
theorem dX8_digestAnalysis_44 : decode cX8_digestAnalysis 44 = .ok (.getfield 156, 3) := by decide +kernel
theorem dX8_digestAnalysis_47 : decode cX8_digestAnalysis 47 = .ok (.getfield 161, 3) := by decide +kernel
theorem dX8_digestAnalysis_50 : decode cX8_digestAnalysis 50 = .ok (.ifCond .ne 13, 3) := by decide +kernel
theorem dX8_digestAnalysis_53 : decode cX8_digestAnalysis 53 = .ok (.lload_n 3, 1) := by decide +kernel
theorem dX8_digestAnalysis_54 : decode cX8_digestAnalysis 54 = .ok (.aload 6, 2) := by decide +kernel
theorem dX8_digestAnalysis_56 : decode cX8_digestAnalysis 56 = .ok (.getfield 156, 3) := by decide +kernel
theorem dX8_digestAnalysis_59 : decode cX8_digestAnalysis 59 = .ok (.invokestatic 223, 3) := by decide +kernel
theorem dX8_digestAnalysis_62 : decode cX8_digestAnalysis 62 = .ok (.lstore_n 3, 1) := by decide +kernel
theorem dX8_digestAnalysis_63 : decode cX8_digestAnalysis 63 = .ok (.iinc 5 1, 3) := by decide +kernel
theorem dX8_digestAnalysis_66 : decode cX8_digestAnalysis 66 = .ok (.goto (-61), 3) := by decide +kernel
theorem dX8_digestAnalysis_69 : decode cX8_digestAnalysis 69 = .ok (.lload_n 3, 1) := by decide +kernel
theorem dX8_digestAnalysis_70 : decode cX8_digestAnalysis 70 = .ok (.lreturn, 1) := by decide +kernel
theorem dX8_digestRanges_0 : decode cX8_digestRanges 0 = .ok (.lload_n 0, 1) := by decide +kernel
theorem dX8_digestRanges_1 : decode cX8_digestRanges 1 = .ok (.lstore_n 3, 1) := by decide +kernel
theorem dX8_digestRanges_2 : decode cX8_digestRanges 2 = .ok (.iconst 0, 1) := by decide +kernel
theorem dX8_digestRanges_3 : decode cX8_digestRanges 3 = .ok (.istore 5, 2) := by decide +kernel
theorem dX8_digestRanges_5 : decode cX8_digestRanges 5 = .ok (.iload 5, 2) := by decide +kernel
theorem dX8_digestRanges_7 : decode cX8_digestRanges 7 = .ok (.bipush 6, 2) := by decide +kernel
theorem dX8_digestRanges_9 : decode cX8_digestRanges 9 = .ok (.if_icmp .ge 39, 3) := by decide +kernel
theorem dX8_digestRanges_12 : decode cX8_digestRanges 12 = .ok (.lload_n 3, 1) := by decide +kernel
theorem dX8_digestRanges_13 : decode cX8_digestRanges 13 = .ok (.ldc2_w 218, 3) := by decide +kernel
theorem dX8_digestRanges_16 : decode cX8_digestRanges 16 = .ok (.lmul, 1) := by decide +kernel
theorem dX8_digestRanges_17 : decode cX8_digestRanges 17 = .ok (.aload_n 2, 1) := by decide +kernel
theorem dX8_digestRanges_18 : decode cX8_digestRanges 18 = .ok (.getfield 64, 3) := by decide +kernel
theorem dX8_digestRanges_21 : decode cX8_digestRanges 21 = .ok (.iload 5, 2) := by decide +kernel
theorem dX8_digestRanges_23 : decode cX8_digestRanges 23 = .ok (.iaload, 1) := by decide +kernel
theorem dX8_digestRanges_24 : decode cX8_digestRanges 24 = .ok (.i2l, 1) := by decide +kernel
theorem dX8_digestRanges_25 : decode cX8_digestRanges 25 = .ok (.ladd, 1) := by decide +kernel
theorem dX8_digestRanges_26 : decode cX8_digestRanges 26 = .ok (.lstore_n 3, 1) := by decide +kernel
theorem dX8_digestRanges_27 : decode cX8_digestRanges 27 = .ok (.lload_n 3, 1) := by decide +kernel
theorem dX8_digestRanges_28 : decode cX8_digestRanges 28 = .ok (.ldc2_w 218, 3) := by decide +kernel
theorem dX8_digestRanges_31 : decode cX8_digestRanges 31 = .ok (.lmul, 1) := by decide +kernel
theorem dX8_digestRanges_32 : decode cX8_digestRanges 32 = .ok (.aload_n 2, 1) := by decide +kernel
theorem dX8_digestRanges_33 : decode cX8_digestRanges 33 = .ok (.getfield 70, 3) := by decide +kernel
theorem dX8_digestRanges_36 : decode cX8_digestRanges 36 = .ok (.iload 5, 2) := by decide +kernel
theorem dX8_digestRanges_38 : decode cX8_digestRanges 38 = .ok (.iaload, 1) := by decide +kernel
theorem dX8_digestRanges_39 : decode cX8_digestRanges 39 = .ok (.i2l, 1) := by decide +kernel
theorem dX8_digestRanges_40 : decode cX8_digestRanges 40 = .ok (.ladd, 1) := by decide +kernel
theorem dX8_digestRanges_41 : decode cX8_digestRanges 41 = .ok (.lstore_n 3, 1) := by decide +kernel
theorem dX8_digestRanges_42 : decode cX8_digestRanges 42 = .ok (.iinc 5 1, 3) := by decide +kernel
theorem dX8_digestRanges_45 : decode cX8_digestRanges 45 = .ok (.goto (-40), 3) := by decide +kernel
theorem dX8_digestRanges_48 : decode cX8_digestRanges 48 = .ok (.lload_n 3, 1) := by decide +kernel
theorem dX8_digestRanges_49 : decode cX8_digestRanges 49 = .ok (.lreturn, 1) := by decide +kernel
theorem dX8_endOfRange_0 : decode cX8_endOfRange 0 = .ok (.aload_n 0, 1) := by decide +kernel
theorem dX8_endOfRange_1 : decode cX8_endOfRange 1 = .ok (.getfield 161, 3) := by decide +kernel
theorem dX8_endOfRange_4 : decode cX8_endOfRange 4 = .ok (.ifCond .eq 13, 3) := by decide +kernel
theorem dX8_endOfRange_7 : decode cX8_endOfRange 7 = .ok (.new 227, 3) := by decide +kernel
theorem dX8_endOfRange_10 : decode cX8_endOfRange 10 = .ok (.dup, 1) := by decide +kernel
theorem dX8_endOfRange_11 : decode cX8_endOfRange 11 = .ok (.ldc 229, 2) := by decide +kernel
theorem dX8_endOfRange_13 : decode cX8_endOfRange 13 = .ok (.invokespecial 231, 3) := by decide +kernel
theorem dX8_endOfRange_16 : decode cX8_endOfRange 16 = .ok (.athrow, 1) := by decide +kernel
theorem dX8_endOfRange_17 : decode cX8_endOfRange 17 = .ok (.iload_n 2, 1) := by decide +kernel
theorem dX8_endOfRange_18 : decode cX8_endOfRange 18 = .ok (.ifCond .eq 12, 3) := by decide +kernel
theorem dX8_endOfRange_21 : decode cX8_endOfRange 21 = .ok (.aload_n 0, 1) := by decide +kernel
theorem dX8_endOfRange_22 : decode cX8_endOfRange 22 = .ok (.getfield 70, 3) := by decide +kernel
theorem dX8_endOfRange_25 : decode cX8_endOfRange 25 = .ok (.iload_n 1, 1) := by decide +kernel
theorem dX8_endOfRange_26 : decode cX8_endOfRange 26 = .ok (.iaload, 1) := by decide +kernel
theorem dX8_endOfRange_27 : decode cX8_endOfRange 27 = .ok (.goto 9, 3) := by decide +kernel
theorem dX8_endOfRange_30 : decode cX8_endOfRange 30 = .ok (.aload_n 0, 1) := by decide +kernel
theorem dX8_endOfRange_31 : decode cX8_endOfRange 31 = .ok (.getfield 64, 3) := by decide +kernel
theorem dX8_endOfRange_34 : decode cX8_endOfRange 34 = .ok (.iload_n 1, 1) := by decide +kernel
theorem dX8_endOfRange_35 : decode cX8_endOfRange 35 = .ok (.iaload, 1) := by decide +kernel
theorem dX8_endOfRange_36 : decode cX8_endOfRange 36 = .ok (.ireturn, 1) := by decide +kernel
theorem dX8_requireBlock_0 : decode cX8_requireBlock 0 = .ok (.iload_n 1, 1) := by decide +kernel
theorem dX8_requireBlock_1 : decode cX8_requireBlock 1 = .ok (.ifCond .lt 14, 3) := by decide +kernel
theorem dX8_requireBlock_4 : decode cX8_requireBlock 4 = .ok (.iload_n 1, 1) := by decide +kernel
theorem dX8_requireBlock_5 : decode cX8_requireBlock 5 = .ok (.aload_n 0, 1) := by decide +kernel
theorem dX8_requireBlock_6 : decode cX8_requireBlock 6 = .ok (.getfield 10, 3) := by decide +kernel
theorem dX8_requireBlock_9 : decode cX8_requireBlock 9 = .ok (.getfield 41, 3) := by decide +kernel
theorem dX8_requireBlock_12 : decode cX8_requireBlock 12 = .ok (.if_icmp .lt 13, 3) := by decide +kernel
theorem dX8_requireBlock_15 : decode cX8_requireBlock 15 = .ok (.new 171, 3) := by decide +kernel
theorem dX8_requireBlock_18 : decode cX8_requireBlock 18 = .ok (.dup, 1) := by decide +kernel
theorem dX8_requireBlock_19 : decode cX8_requireBlock 19 = .ok (.ldc 232, 2) := by decide +kernel
theorem dX8_requireBlock_21 : decode cX8_requireBlock 21 = .ok (.invokespecial 175, 3) := by decide +kernel
theorem dX8_requireBlock_24 : decode cX8_requireBlock 24 = .ok (.athrow, 1) := by decide +kernel
theorem dX8_requireBlock_25 : decode cX8_requireBlock 25 = .ok (.return_, 1) := by decide +kernel
theorem dX8_requireRoom_0 : decode cX8_requireRoom 0 = .ok (.aload_n 0, 1) := by decide +kernel
theorem dX8_requireRoom_1 : decode cX8_requireRoom 1 = .ok (.getfield 10, 3) := by decide +kernel
theorem dX8_requireRoom_4 : decode cX8_requireRoom 4 = .ok (.getfield 83, 3) := by decide +kernel
theorem dX8_requireRoom_7 : decode cX8_requireRoom 7 = .ok (.iload_n 1, 1) := by decide +kernel
theorem dX8_requireRoom_8 : decode cX8_requireRoom 8 = .ok (.aaload, 1) := by decide +kernel
theorem dX8_requireRoom_9 : decode cX8_requireRoom 9 = .ok (.getfield 110, 3) := by decide +kernel
theorem dX8_requireRoom_12 : decode cX8_requireRoom 12 = .ok (.bipush 8, 2) := by decide +kernel
theorem dX8_requireRoom_14 : decode cX8_requireRoom 14 = .ok (.if_icmp .lt 13, 3) := by decide +kernel
theorem dX8_requireRoom_17 : decode cX8_requireRoom 17 = .ok (.new 45, 3) := by decide +kernel
theorem dX8_requireRoom_20 : decode cX8_requireRoom 20 = .ok (.dup, 1) := by decide +kernel
theorem dX8_requireRoom_21 : decode cX8_requireRoom 21 = .ok (.ldc 234, 2) := by decide +kernel
theorem dX8_requireRoom_23 : decode cX8_requireRoom 23 = .ok (.invokespecial 49, 3) := by decide +kernel
theorem dX8_requireRoom_26 : decode cX8_requireRoom 26 = .ok (.athrow, 1) := by decide +kernel
theorem dX8_requireRoom_27 : decode cX8_requireRoom 27 = .ok (.return_, 1) := by decide +kernel
theorem dX8_requireStep_0 : decode cX8_requireStep 0 = .ok (.iload_n 1, 1) := by decide +kernel
theorem dX8_requireStep_1 : decode cX8_requireStep 1 = .ok (.ifCond .lt 14, 3) := by decide +kernel
theorem dX8_requireStep_4 : decode cX8_requireStep 4 = .ok (.iload_n 1, 1) := by decide +kernel
theorem dX8_requireStep_5 : decode cX8_requireStep 5 = .ok (.aload_n 0, 1) := by decide +kernel
theorem dX8_requireStep_6 : decode cX8_requireStep 6 = .ok (.getfield 33, 3) := by decide +kernel
theorem dX8_requireStep_9 : decode cX8_requireStep 9 = .ok (.getfield 197, 3) := by decide +kernel
theorem dX8_requireStep_12 : decode cX8_requireStep 12 = .ok (.if_icmp .lt 13, 3) := by decide +kernel
theorem dX8_requireStep_15 : decode cX8_requireStep 15 = .ok (.new 171, 3) := by decide +kernel
theorem dX8_requireStep_18 : decode cX8_requireStep 18 = .ok (.dup, 1) := by decide +kernel
theorem dX8_requireStep_19 : decode cX8_requireStep 19 = .ok (.ldc 236, 2) := by decide +kernel
theorem dX8_requireStep_21 : decode cX8_requireStep 21 = .ok (.invokespecial 175, 3) := by decide +kernel
theorem dX8_requireStep_24 : decode cX8_requireStep 24 = .ok (.athrow, 1) := by decide +kernel
theorem dX8_requireStep_25 : decode cX8_requireStep 25 = .ok (.return_, 1) := by decide +kernel
theorem dX8_requireAnalysis_0 : decode cX8_requireAnalysis 0 = .ok (.aload_n 0, 1) := by decide +kernel
theorem dX8_requireAnalysis_1 : decode cX8_requireAnalysis 1 = .ok (.getfield 37, 3) := by decide +kernel
theorem dX8_requireAnalysis_4 : decode cX8_requireAnalysis 4 = .ok (.ifCond .ne 13, 3) := by decide +kernel
theorem dX8_requireAnalysis_7 : decode cX8_requireAnalysis 7 = .ok (.new 45, 3) := by decide +kernel
theorem dX8_requireAnalysis_10 : decode cX8_requireAnalysis 10 = .ok (.dup, 1) := by decide +kernel
theorem dX8_requireAnalysis_11 : decode cX8_requireAnalysis 11 = .ok (.ldc 238, 2) := by decide +kernel
theorem dX8_requireAnalysis_13 : decode cX8_requireAnalysis 13 = .ok (.invokespecial 49, 3) := by decide +kernel
theorem dX8_requireAnalysis_16 : decode cX8_requireAnalysis 16 = .ok (.athrow, 1) := by decide +kernel
theorem dX8_requireAnalysis_17 : decode cX8_requireAnalysis 17 = .ok (.return_, 1) := by decide +kernel
theorem dX8_requireVariable_0 : decode cX8_requireVariable 0 = .ok (.iload_n 0, 1) := by decide +kernel
theorem dX8_requireVariable_1 : decode cX8_requireVariable 1 = .ok (.ifCond .lt 9, 3) := by decide +kernel
theorem dX8_requireVariable_4 : decode cX8_requireVariable 4 = .ok (.iload_n 0, 1) := by decide +kernel
theorem dX8_requireVariable_5 : decode cX8_requireVariable 5 = .ok (.bipush 6, 2) := by decide +kernel
theorem dX8_requireVariable_7 : decode cX8_requireVariable 7 = .ok (.if_icmp .lt 13, 3) := by decide +kernel
theorem dX8_requireVariable_10 : decode cX8_requireVariable 10 = .ok (.new 171, 3) := by decide +kernel
theorem dX8_requireVariable_13 : decode cX8_requireVariable 13 = .ok (.dup, 1) := by decide +kernel
theorem dX8_requireVariable_14 : decode cX8_requireVariable 14 = .ok (.ldc 240, 2) := by decide +kernel
theorem dX8_requireVariable_16 : decode cX8_requireVariable 16 = .ok (.invokespecial 175, 3) := by decide +kernel
theorem dX8_requireVariable_19 : decode cX8_requireVariable 19 = .ok (.athrow, 1) := by decide +kernel
theorem dX8_requireVariable_20 : decode cX8_requireVariable 20 = .ok (.return_, 1) := by decide +kernel
theorem dX8_requireRange_0 : decode cX8_requireRange 0 = .ok (.iload_n 0, 1) := by decide +kernel
theorem dX8_requireRange_1 : decode cX8_requireRange 1 = .ok (.ldc 126, 2) := by decide +kernel
theorem dX8_requireRange_3 : decode cX8_requireRange 3 = .ok (.if_icmp .lt 14, 3) := by decide +kernel
theorem dX8_requireRange_6 : decode cX8_requireRange 6 = .ok (.iload_n 1, 1) := by decide +kernel
theorem dX8_requireRange_7 : decode cX8_requireRange 7 = .ok (.ldc 127, 2) := by decide +kernel
theorem dX8_requireRange_9 : decode cX8_requireRange 9 = .ok (.if_icmp .gt 8, 3) := by decide +kernel
theorem dX8_requireRange_12 : decode cX8_requireRange 12 = .ok (.iload_n 0, 1) := by decide +kernel
theorem dX8_requireRange_13 : decode cX8_requireRange 13 = .ok (.iload_n 1, 1) := by decide +kernel
theorem dX8_requireRange_14 : decode cX8_requireRange 14 = .ok (.if_icmp .le 13, 3) := by decide +kernel
theorem dX8_requireRange_17 : decode cX8_requireRange 17 = .ok (.new 93, 3) := by decide +kernel
theorem dX8_requireRange_20 : decode cX8_requireRange 20 = .ok (.dup, 1) := by decide +kernel
theorem dX8_requireRange_21 : decode cX8_requireRange 21 = .ok (.ldc 242, 2) := by decide +kernel
theorem dX8_requireRange_23 : decode cX8_requireRange 23 = .ok (.invokespecial 97, 3) := by decide +kernel
theorem dX8_requireRange_26 : decode cX8_requireRange 26 = .ok (.athrow, 1) := by decide +kernel
theorem dX8_requireRange_27 : decode cX8_requireRange 27 = .ok (.return_, 1) := by decide +kernel
end
section
/-! ===== the class's cells: 67 states (object, lows, highs): 0 initial, 1 incoming, 2 joined, 3+4b entry, 4+4b exit, 5+4b+e edge e; 16 blocks from 201 (object, kinds, targets, firsts, seconds, followers); 16 flows from 297 (object, edge states); 329 .. the single ones ===== -/
def cSh : Nat → wSh := fun k =>
  if k < 201 then (if k % 3 = 0 then .inr (.inr (6, [none, some (some (k + 1)), some (some (k + 2))])) else .inl (0, 6))
  else if k < 297 then (if (k - 201) % 6 = 0 then .inr (.inr (1, [none, some (some (k + 1)), some (some (k + 2)), some (some (k + 3)), some (some (k + 4)), none, some (some (k + 5)), none, none, none])) else if (k - 201) % 6 = 5 then .inl (0, 2) else .inl (0, 8))
  else if k < 329 then (if (k - 297) % 2 = 0 then .inr (.inr (3, [some (some (3 * (3 + 4 * ((k - 297) / 2)))), some (some (3 * (4 + 4 * ((k - 297) / 2)))), some (some (k + 1)), none])) else .inr (.inl (4, 2, fun e => 3 * (5 + 4 * ((k - 297) / 2) + e))))
  else if k = 329 then .inr (.inr (7, [some (some 330), some (some 332), some (some 334), some (some 336), none]))
  else if k = 330 then .inr (.inr (4, [some (some 331), some (some 0), none]))
  else if k = 331 then .inr (.inl (2, 16, fun b => 201 + 6 * b))
  else if k = 332 then .inr (.inr (5, [none, none, none, some (some 333)]))
  else if k = 333 then .inl (0, 8)
  else if k = 334 then .inr (.inr (0, [some (some 335), some (some 3), some (some 6)]))
  else if k = 335 then .inr (.inl (3, 16, fun b => 297 + 2 * b))
  else if k = 336 then .inr (.inr (2, [some (some 337), some (some 338), some (some 339), none, some none]))
  else if k = 337 then .inl (0, 6)
  else if k = 338 then .inl (0, 300)
  else .inl (0, 1800)
theorem cs_S {i : Nat} (h : i < 67) : cSh (3 * i) = .inr (.inr (6, [none, some (some (3 * i + 1)), some (some (3 * i + 2))])) := by
  unfold cSh; rw [if_pos (by omega), if_pos (by omega)]
theorem cs_SL {i : Nat} (h : i < 67) : cSh (3 * i + 1) = .inl (0, 6) := by
  unfold cSh; rw [if_pos (by omega), if_neg (by omega)]
theorem cs_SH {i : Nat} (h : i < 67) : cSh (3 * i + 2) = .inl (0, 6) := by
  unfold cSh; rw [if_pos (by omega), if_neg (by omega)]
theorem cs_B {b : Nat} (h : b < 16) : cSh (201 + 6 * b) = .inr (.inr (1, [none, some (some (201 + 6 * b + 1)), some (some (201 + 6 * b + 2)), some (some (201 + 6 * b + 3)), some (some (201 + 6 * b + 4)), none, some (some (201 + 6 * b + 5)), none, none, none])) := by
  unfold cSh; rw [if_neg (by omega), if_pos (by omega), if_pos (by omega)]
theorem cs_B1 {b : Nat} (h : b < 16) : cSh (201 + 6 * b + 1) = .inl (0, 8) := by
  unfold cSh; rw [if_neg (by omega), if_pos (by omega), if_neg (by omega), if_neg (by omega)]
theorem cs_B2 {b : Nat} (h : b < 16) : cSh (201 + 6 * b + 2) = .inl (0, 8) := by
  unfold cSh; rw [if_neg (by omega), if_pos (by omega), if_neg (by omega), if_neg (by omega)]
theorem cs_B3 {b : Nat} (h : b < 16) : cSh (201 + 6 * b + 3) = .inl (0, 8) := by
  unfold cSh; rw [if_neg (by omega), if_pos (by omega), if_neg (by omega), if_neg (by omega)]
theorem cs_B4 {b : Nat} (h : b < 16) : cSh (201 + 6 * b + 4) = .inl (0, 8) := by
  unfold cSh; rw [if_neg (by omega), if_pos (by omega), if_neg (by omega), if_neg (by omega)]
theorem cs_B5 {b : Nat} (h : b < 16) : cSh (201 + 6 * b + 5) = .inl (0, 2) := by
  unfold cSh; rw [if_neg (by omega), if_pos (by omega), if_neg (by omega), if_pos (by omega)]
theorem cs_F {b : Nat} (h : b < 16) : cSh (297 + 2 * b) = .inr (.inr (3, [some (some (3 * (3 + 4 * b))), some (some (3 * (4 + 4 * b))), some (some (297 + 2 * b + 1)), none])) := by
  unfold cSh
  rw [if_neg (by omega), if_neg (by omega), if_pos (by omega), if_pos (by omega), show (297 + 2 * b - 297) / 2 = b by omega]
theorem cs_FE {b : Nat} (h : b < 16) : cSh (297 + 2 * b + 1) = .inr (.inl (4, 2, fun e => 3 * (5 + 4 * b + e))) := by
  unfold cSh
  rw [if_neg (by omega), if_neg (by omega), if_pos (by omega), if_neg (by omega), show (297 + 2 * b + 1 - 297) / 2 = b by omega]
theorem cs_X : cSh 329 = .inr (.inr (7, [some (some 330), some (some 332), some (some 334), some (some 336), none])) := rfl
theorem cs_P : cSh 330 = .inr (.inr (4, [some (some 331), some (some 0), none])) := rfl
theorem cs_PB : cSh 331 = .inr (.inl (2, 16, fun b => 201 + 6 * b)) := rfl
theorem cs_T : cSh 332 = .inr (.inr (5, [none, none, none, some (some 333)])) := rfl
theorem cs_TT : cSh 333 = .inl (0, 8) := rfl
theorem cs_A : cSh 334 = .inr (.inr (0, [some (some 335), some (some 3), some (some 6)])) := rfl
theorem cs_AF : cSh 335 = .inr (.inl (3, 16, fun b => 297 + 2 * b)) := rfl
theorem cs_Q : cSh 336 = .inr (.inr (2, [some (some 337), some (some 338), some (some 339), none, some none])) := rfl
theorem cs_QV : cSh 337 = .inl (0, 6) := rfl
theorem cs_QB : cSh 338 = .inl (0, 300) := rfl
theorem cs_QW : cSh 339 = .inl (0, 1800) := rfl
/-! the reference's cells: 0 the object, 1 .. 22 its rows -/
def mSh : Nat → wSh := fun k =>
  if k = 0 then .inr (.inr (8, [none, none, some (some 1), some (some 2), some (some 3), some (some 4), some (some 5), some (some 6), some (some 7), some (some 8), some (some 9), some (some 10), none, none, none, some (some 11), none, some (some 12), some (some 13), some (some 14), some (some 15), some (some 16), some (some 17), none, some (some 18), some (some 19), none, some (some 20), some (some 21), some (some 22), some none]))
  else if k = 2 then .inl (0, 512)
  else if k = 9 then .inl (0, 6)
  else if k = 10 then .inl (0, 6)
  else if k = 11 then .inl (0, 8)
  else if k = 12 then .inl (1, 16)
  else if k = 13 then .inl (0, 96)
  else if k = 14 then .inl (0, 96)
  else if k = 16 then .inl (0, 6)
  else if k = 17 then .inl (0, 6)
  else if k = 18 then .inl (0, 6)
  else if k = 19 then .inl (0, 6)
  else if k = 20 then .inl (0, 300)
  else if k = 21 then .inl (0, 1800)
  else if k = 22 then .inl (0, 6)
  else .inl (0, 16)
section WQ
variable {p : Program} {l : Launch} {e : Env} {R : Room} {s : State} {m : MethodId} {args : Array Value} {below : List Frame} {meth : Method} {c : Code} {H : Heap} {locs : List Loc} {cells slots : Nat} {Q : State → Prop}
variable {cc : ByteArray} {pc : Nat} {ls : Array Slot} {rest : List Value}
variable {n : Nat} {sh : Nat → wSh} {ad : Nat → Nat} {cs : Nat → ClassId} {M : wM} {J : wJ} {D : va_G} {A : Nat → Prop} {H0 : Heap}
/-- the array rows, the index a counted number -/
theorem wr_ildN (hexec : p.tables.exec = Jvm.exec) (hb : c.code = cc) (hK : va_K D vwCl (wT cs) s) (hw : wI D n sh ad cs A H0 M J H locs) (k : Nat) (hk : k < n) {len : Nat} (hs : sh k = .inl (0, len)) (hl : len < 2147483648) {i : Int32} (j : Nat) (hi : i = nI j) (hj : j < len) (hdg : decode cc pc = .ok (.iaload, 1))
    (kk : W p l e R s m args below meth c H locs cells slots Q (F0 m (pc + 1) ls (.int (M k j) :: rest))) : W p l e R s m args below meth c H locs cells slots Q (F0 m pc ls (.int i :: .ref (ad k) :: rest)) := by
  subst hi
  refine wr_ild hexec hb hK hw k hk hs (vp_in_nI hj hl) hdg ?_
  rw [nI_clamp (by omega)]
  exact kk
theorem wr_istN (hexec : p.tables.exec = Jvm.exec) (hb : c.code = cc) (hK : va_K D vwCl (wT cs) s) (hw : wI D n sh ad cs A H0 M J H locs) (k : Nat) (hk : k < n) {len : Nat} (hs : sh k = .inl (0, len)) (hl : len < 2147483648) {i x : Int32} (j : Nat) (hi : i = nI j) (hj : j < len) (hdg : decode cc pc = .ok (.iastore, 1))
    (kk : ∀ (H1 : Heap) (locs1 : List Loc), wI D n sh ad cs A H0 (wU M k j x) J H1 locs1 → W p l e R s m args below meth c H1 locs1 cells slots Q (F0 m (pc + 1) ls rest)) : W p l e R s m args below meth c H locs cells slots Q (F0 m pc ls (.int x :: .int i :: .ref (ad k) :: rest)) := by
  subst hi
  refine wr_ist hexec hb hK hw k hk hs (vp_in_nI hj hl) hdg ?_
  rw [nI_clamp (by omega)]
  exact kk
theorem wr_zldN (hexec : p.tables.exec = Jvm.exec) (hb : c.code = cc) (hK : va_K D vwCl (wT cs) s) (hw : wI D n sh ad cs A H0 M J H locs) (k : Nat) (hk : k < n) {len : Nat} (hs : sh k = .inl (1, len)) (hl : len < 2147483648) {i : Int32} (j : Nat) (hi : i = nI j) (hj : j < len) (hdg : decode cc pc = .ok (.baload, 1))
    (kk : W p l e R s m args below meth c H locs cells slots Q (F0 m (pc + 1) ls (.int (M k j) :: rest))) : W p l e R s m args below meth c H locs cells slots Q (F0 m pc ls (.int i :: .ref (ad k) :: rest)) := by
  subst hi
  refine wr_zld hexec hb hK hw k hk hs (vp_in_nI hj hl) hdg ?_
  rw [nI_clamp (by omega)]
  exact kk
theorem wr_aldN (hexec : p.tables.exec = Jvm.exec) (hb : c.code = cc) (hK : va_K D vwCl (wT cs) s) (hw : wI D n sh ad cs A H0 M J H locs) (k : Nat) (hk : k < n) {t0 len : Nat} {C : String} {g : Nat → Nat} (hs : sh k = .inr (.inl (t0, len, g))) (ht : (wT cs)[t0]? = some (cs t0, .object C)) (hl : len < 2147483648) {i : Int32} (j : Nat) (hi : i = nI j) (hj : j < len) (hdg : decode cc pc = .ok (.aaload, 1))
    (kk : W p l e R s m args below meth c H locs cells slots Q (F0 m (pc + 1) ls (.ref (ad (g j)) :: rest))) : W p l e R s m args below meth c H locs cells slots Q (F0 m pc ls (.int i :: .ref (ad k) :: rest)) := by
  subst hi
  refine wr_ald hexec hb hK hw k hk hs ht (vp_in_nI hj hl) hdg ?_
  rw [nI_clamp (by omega)]
  exact kk
/-- System.arraycopy between two int rows of the world -/
theorem wr_cpy (hexec : p.tables.exec = Jvm.exec) (hb : c.code = cc) (hml : c.maxLocals = ls.size) {own : String} {index : Nat} (hown : s.vm.findClass own = some m.cls) (hlink : (Cond.methodLink own index arraycopyName).before args s = true) (hnat : (Cond.native arraycopyName).before args s = true) (hstat : (Cond.static arraycopyName).before args s = true) (hini : (Cond.initialized "java/lang/System").before args s = true) (hK : va_K D vwCl (wT cs) s) (hw : wI D n sh ad cs A H0 M J H locs)
    (k0 k1 : Nat) (h0 : k0 < n) (h1 : k1 < n) {l0 l1 : Nat} (hs0 : sh k0 = .inl (0, l0)) (hs1 : sh k1 = .inl (0, l1)) {sp dp nn : Int32} (a b d : Nat) (ha : sp = nI a) (hb2 : dp = nI b) (hd : nn = nI d) (hl0 : l0 < 2147483648) (hl1 : l1 < 2147483648) (h4 : a + d ≤ l0) (h5 : b + d ≤ l1) (hframes : 1 ≤ R.frames) (hlocals : (rest.map fun v => v.category).sum + (nativeFrameWords "java/lang/System" "arraycopy" 5 + 11) ≤ R.locals) (hdg : decode cc pc = .ok (.invokestatic index, 3))
    (kk : ∀ (H1 : Heap) (locs1 : List Loc), wI D n sh ad cs A H0 (va_up M k1 (va_cpy (M k0) (M k1) a b d)) J H1 locs1 → W p l e R s m args below meth c H1 locs1 cells slots Q (F0 m (pc + 3) ls rest)) : W p l e R s m args below meth c H locs cells slots Q (F0 m pc ls (.int nn :: .int dp :: .ref (ad k1) :: .int sp :: .ref (ad k0) :: rest)) := by
  subst ha; subst hb2; subst hd
  have e1 : (nI a).toNatClampNeg = a := nI_clamp (by omega)
  have e2 : (nI b).toNatClampNeg = b := nI_clamp (by omega)
  have e3 : (nI d).toNatClampNeg = d := nI_clamp (by omega)
  refine va_copyi (ty := .int) hexec hb hml hown hlink hnat hstat hini hK hw.1 hw.2.1 hw.2.2 k0 k1 0 0 (by rw [wW_get h0, wE_i hs0]) (by rw [wW_get h1, wE_i hs1]) rfl rfl rfl (nI_pos (by omega)) (nI_pos (by omega)) (nI_pos (by omega)) (by rw [e1, e3]; exact h4) (by rw [e2, e3]; exact h5) (fun _ _ => rfl) hframes hlocals hdg (fun H1 locs1 hP hD hS => kk H1 locs1 (wI_set hw h1 ?_ (fun a ha => va_up_ne _ _ ha) (fun _ _ => rfl) hP hS))
  rw [wE_i hs1, va_up_self, e1, e2, e3]
/-- counted numbers -/
theorem lv_iaddN (hexec : p.tables.exec = Jvm.exec) (hb : c.code = cc) {x y : Nat} (hdg : decode cc pc = .ok (.iadd, 1)) (k : W p l e R s m args below meth c H locs cells slots Q (F0 m (pc + 1) ls (.int (nI (x + y)) :: rest))) : W p l e R s m args below meth c H locs cells slots Q (F0 m pc ls (.int (nI y) :: .int (nI x) :: rest)) := by
  refine lv_iadd hexec hb hdg ?_
  rw [nI_add]; exact k
theorem lv_imulN (hexec : p.tables.exec = Jvm.exec) (hb : c.code = cc) {x y : Nat} (hdg : decode cc pc = .ok (.imul, 1)) (k : W p l e R s m args below meth c H locs cells slots Q (F0 m (pc + 1) ls (.int (nI (x * y)) :: rest))) : W p l e R s m args below meth c H locs cells slots Q (F0 m pc ls (.int (nI y) :: .int (nI x) :: rest)) := by
  refine lv_imul hexec hb hdg ?_
  rw [pk_mul]; exact k
end WQ
end
section
/-! ===== small words of the walks ===== -/
def i_mn (x y : Int32) : Int32 := if y < x then y else x
def i_mx (x y : Int32) : Int32 := if x < y then y else x
def l_mn (x y : Int64) : Int64 := if y < x then y else x
def l_mx (x y : Int64) : Int64 := if y < x then x else y
theorem sw_out {x : Int32} (lo hi : Nat) (hh : hi < 2147483648) (hk : ∀ k, lo ≤ k → k ≤ hi → ¬ x = nI k) : x.toInt < (lo : Int) ∨ (hi : Int) < x.toInt := by
  rcases Int.lt_or_le x.toInt lo with h | h
  · exact Or.inl h
  · rcases Int.lt_or_le (hi : Int) x.toInt with g | g
    · exact Or.inr g
    · exfalso
      refine hk x.toInt.toNat (by omega) (by omega) ?_
      apply Int32.toInt_inj.mp
      rw [nI_toInt (by omega)]
      omega
/-- a boolean's number -/
def bz (x : Int32) : Prop := x = nI 0 ∨ x = nI 1
theorem bz_n {x : Int32} (h : bz x) : narrow .boolean (.int x) = .int x := by rcases h with rfl | rfl <;> decide
theorem bz_f {x : Int32} (h : bz x) : fits .boolean (.int x) = true := by rcases h with rfl | rfl <;> decide
theorem bz_if {P : Prop} [Decidable P] : bz (if P then nI 1 else nI 0) := by
  by_cases h : P
  · rw [if_pos h]; exact Or.inr rfl
  · rw [if_neg h]; exact Or.inl rfl
end
section
section WLp
variable {p : Program} {l : Launch} {e : Env} {R : Room} {s : State} {m : MethodId} {args : Array Value} {below : List Frame} {meth : Method} {c : Code} {H : Heap} {locs : List Loc} {cells slots : Nat} {Q : State → Prop}
variable {pc : Nat} {ls : Array Slot}
variable {n : Nat} {sh : Nat → wSh} {ad : Nat → Nat} {cs : Nat → ClassId} {M : wM} {J : wJ} {D : va_G} {A : Nat → Prop} {H0 : Heap}
/-- a loop whose measure falls -/
theorem w_loop {σ : Type} (I : σ → wM → wJ → Array Slot → Prop) (μ : σ → Nat)
    (body : ∀ (x : σ) (M : wM) (J : wJ) (H : Heap) (locs : List Loc) (ls : Array Slot), I x M J ls → wI D n sh ad cs A H0 M J H locs → (∀ (x' : σ) (M' : wM) (J' : wJ) (H' : Heap) (locs' : List Loc) (ls' : Array Slot), μ x' < μ x → I x' M' J' ls' → wI D n sh ad cs A H0 M' J' H' locs' → W p l e R s m args below meth c H' locs' cells slots Q (F0 m pc ls' [])) → W p l e R s m args below meth c H locs cells slots Q (F0 m pc ls []))
    (x0 : σ) (h0 : I x0 M J ls) (hw : wI D n sh ad cs A H0 M J H locs) : W p l e R s m args below meth c H locs cells slots Q (F0 m pc ls []) := by
  have key : ∀ (f : Nat) (x : σ) (M : wM) (J : wJ) (H : Heap) (locs : List Loc) (ls : Array Slot), μ x < f → I x M J ls → wI D n sh ad cs A H0 M J H locs → W p l e R s m args below meth c H locs cells slots Q (F0 m pc ls []) := by
    intro f
    induction f with
    | zero => intro x M J H locs ls h; omega
    | succ f ih =>
      intro x M J H locs ls h hI hw
      exact body x M J H locs ls hI hw (fun x' M' J' H' locs' ls' hm hI' hw' => ih x' M' J' H' locs' ls' (by omega) hI' hw')
  exact key (μ x0 + 1) x0 M J H locs ls (by omega) h0 hw
end WLp
/-! ===== memory, pure ===== -/
theorem wU_at (M : wM) (k j : Nat) (v : Int32) (a b : Nat) : wU M k j v a b = if a = k ∧ b = j then v else M a b := by
  unfold wU va_up upd
  by_cases h : a = k
  · subst h
    by_cases g : b = j
    · simp [g]
    · simp [g]
  · simp [h]
/-- all cells but those of P are as they were -/
def kp (M M' : wM) (P : Nat → Prop) : Prop := ∀ c, ¬ P c → M' c = M c
theorem kp_refl (M : wM) (P : Nat → Prop) : kp M M P := fun _ _ => rfl
theorem kp_trans {M M' M'' : wM} {P : Nat → Prop} (h : kp M M' P) (g : kp M' M'' P) : kp M M'' P := fun c hc => (g c hc).trans (h c hc)
theorem kp_mono {M M' : wM} {P P' : Nat → Prop} (h : kp M M' P) (g : ∀ c, P c → P' c) : kp M M' P' := fun c hc => h c (fun q => hc (g c q))
theorem kp_U {M : wM} {k j : Nat} {v : Int32} {P : Nat → Prop} (h : P k) : kp M (wU M k j v) P := fun c hc => by
  by_cases g : c = k
  · subst g; exact absurd h hc
  · exact wU_ne g
theorem kp_up {M : wM} {k : Nat} {f : Nat → Int32} {P : Nat → Prop} (h : P k) : kp M (va_up M k f) P := fun c hc => by
  by_cases g : c = k
  · subst g; exact absurd h hc
  · exact va_up_ne _ _ g
/-- the cells of the state i -/
def stc (i : Nat) (c : Nat) : Prop := c = 3 * i ∨ c = 3 * i + 1 ∨ c = 3 * i + 2
/-- a state of the analysis: none, or lows and highs (beyond the six variables: 0) -/
abbrev aS : Type := Option ((Nat → Int32) × (Nat → Int32))
def r6 (f : Nat → Int32) : Nat → Int32 := fun v => if v < 6 then f v else 0
def sv (M : wM) (i : Nat) : aS := if M (3 * i) 0 = 0 then some (r6 (M (3 * i + 1)), r6 (M (3 * i + 2))) else none
def jn (a b : aS) : aS := match a, b with
  | none, t => t
  | t, none => t
  | some f, some g => some (r6 (fun v => i_mn (f.1 v) (g.1 v)), r6 (fun v => i_mx (f.2 v) (g.2 v)))
/-- narrowing: none if one is, else the greater lows, the smaller highs -/
def nw (a b : aS) : aS := match a, b with
  | none, _ => none
  | _, none => none
  | some f, some g => some (r6 (fun v => i_mx (f.1 v) (g.1 v)), r6 (fun v => i_mn (f.2 v) (g.2 v)))
theorem r6_lt {f : Nat → Int32} {v : Nat} (h : v < 6) : r6 f v = f v := by unfold r6; rw [if_pos h]
theorem r6_ext {f g : Nat → Int32} (h : ∀ v, v < 6 → f v = g v) : r6 f = r6 g := by
  funext v
  unfold r6
  by_cases q : v < 6
  · rw [if_pos q, if_pos q, h v q]
  · rw [if_neg q, if_neg q]
theorem sv_kp {M M' : wM} {i : Nat} {P : Nat → Prop} (h : kp M M' P) (h0 : ¬ P (3 * i)) (h1 : ¬ P (3 * i + 1)) (h2 : ¬ P (3 * i + 2)) : sv M' i = sv M i := by
  unfold sv; rw [h _ h0, h _ h1, h _ h2]
theorem sv_stc {M M' : wM} {i j : Nat} (h : kp M M' (stc i)) (hij : j ≠ i) : sv M' j = sv M j := sv_kp h (by unfold stc; omega) (by unfold stc; omega) (by unfold stc; omega)
end
section
/-! Arithmetic, State without loops: laid by wip/gen/specs1.py -/
def E_X1_outcome (M : wM) (k : Int32) (y : Int32) (z : Int32) : Int32 := (if k = nI 1 then ((l_mx ((-1000000000 : Int64)) ((l_mn ((1000000000 : Int64)) ((y.toInt64 + z.toInt64)))))).toInt32 else (if k = nI 2 then ((l_mx ((-1000000000 : Int64)) ((l_mn ((1000000000 : Int64)) ((y.toInt64 - z.toInt64)))))).toInt32 else (if k = nI 3 then ((l_mx ((-1000000000 : Int64)) ((l_mn ((1000000000 : Int64)) ((y.toInt64 * z.toInt64)))))).toInt32 else (if k = nI 4 then ((l_mx ((-1000000000 : Int64)) ((l_mn ((1000000000 : Int64)) (((i_mn y z)).toInt64))))).toInt32 else (if k = nI 5 then ((l_mx ((-1000000000 : Int64)) ((l_mn ((1000000000 : Int64)) (((i_mx y z)).toInt64))))).toInt32 else ((l_mx ((-1000000000 : Int64)) ((l_mn ((1000000000 : Int64)) y.toInt64)))).toInt32)))))
set_option maxHeartbeats 4000000 in
set_option maxRecDepth 100000 in
theorem k_X1_outcome (l : Launch) (D : va_G) (ad : Nat → Nat) (cs : Nat → ClassId) (sz : Nat) (M : wM) (J : wJ) (k : Int32) (y : Int32) (z : Int32)  : wCi l yX1_outcome wsX1_outcome { frames := 1, cells := 0, slots := 0, locals := 31 } D 340 cSh ad cs [.int k, .int y, .int z] sz M J (fun r_ u_ => u_ = (M, J) ∧ r_ = E_X1_outcome M k y z) := by
  refine wC_i (cc := cX1_outcome) (maxL := 5) (ret := (some .int)) (by decide) rfl (Nat.le_of_ble_eq_true rfl) ?_
  intro p e s m below meth c ls A hx hb hr hml hown hts hlocks hK hA hw hl hAe
  clear hAe
  have hl : lv_has ls 5 [(0, .int k), (1, .int y), (2, .int z)] := hl
  have k18 : (Cond.constantLong RX1 18 (-1000000000)).before _ s = true := hts _ (by decide +kernel)
  have k20 : (Cond.constantLong RX1 20 (1000000000)).before _ s = true := hts _ (by decide +kernel)
  have m22 : (Cond.methodLink RX1 22 Lib.MathLoose.min_long.x).before _ s = true := hts _ (by decide +kernel)
  have t22 : (Cond.static Lib.MathLoose.min_long.x).before _ s = true := hts _ (by decide +kernel)
  have iMath : (Cond.initialized "java/lang/Math").before _ s = true := hts _ (by decide +kernel)
  have c22 : (Cond.code Lib.MathLoose.min_long.x Lib.MathLoose.min_long.code 4 (some .long)).before _ s = true := hts _ (by decide +kernel)
  have m25 : (Cond.methodLink RX1 25 Lib.MathLoose.max_long.x).before _ s = true := hts _ (by decide +kernel)
  have t25 : (Cond.static Lib.MathLoose.max_long.x).before _ s = true := hts _ (by decide +kernel)
  have c25 : (Cond.code Lib.MathLoose.max_long.x Lib.MathLoose.max_long.code 4 (some .long)).before _ s = true := hts _ (by decide +kernel)
  have m9 : (Cond.methodLink RX1 9 Lib.Math.min.name).before _ s = true := hts _ (by decide +kernel)
  have t9 : (Cond.static Lib.Math.min.name).before _ s = true := hts _ (by decide +kernel)
  have c9 : (Cond.code Lib.Math.min.name Lib.Math.min.code 2 (some .int)).before _ s = true := hts _ (by decide +kernel)
  have m15 : (Cond.methodLink RX1 15 Lib.Math.max.name).before _ s = true := hts _ (by decide +kernel)
  have t15 : (Cond.static Lib.Math.max.name).before _ s = true := hts _ (by decide +kernel)
  have c15 : (Cond.code Lib.Math.max.name Lib.Math.max.code 2 (some .int)).before _ s = true := hts _ (by decide +kernel)
  refine lv_iload_n hx hb dX1_outcome_0 rfl (lv_at hl 0 rfl) ?_
  by_cases q1 : k = nI 1
  · refine lv_tableIn (off := 35) (tgt := 36) hx hb dX1_outcome_1 (by rw [q1]; decide) (by rw [q1]; decide) (by rw [q1]; decide) (by decide) ?_
    refine lv_iload_n hx hb dX1_outcome_36 rfl (lv_at hl 1 rfl) ?_
    refine lv_i2l hx hb dX1_outcome_37 rfl ?_
    refine lv_iload_n hx hb dX1_outcome_38 rfl (lv_at hl 2 rfl) ?_
    refine lv_i2l hx hb dX1_outcome_39 rfl ?_
    refine lv_ladd hx hb dX1_outcome_40 ?_
    refine lv_lstore_n (lv' := [(3, .long ((y.toInt64 + z.toInt64))), (0, .int k), (1, .int y), (2, .int z)]) hx hb dX1_outcome_41 rfl hl (by decide) rfl (fun ls hl => ?_)
    refine lv_goto (tgt := 86) hx hb dX1_outcome_42 (by decide) ?_
    refine lv_ldc2 hx hb hown k18 dX1_outcome_86 ?_
    refine lv_ldc2 hx hb hown k20 dX1_outcome_89 ?_
    refine lv_lload_n hx hb dX1_outcome_92 rfl (lv_at hl 0 rfl) ?_
    refine va_mmin_long hx hb (hml.trans hl.1.symm) hown m22 t22 iMath c22 (Nat.le_of_ble_eq_true rfl) (Nat.le_of_ble_eq_true rfl) (Nat.le_of_ble_eq_true rfl) (Nat.le_of_ble_eq_true rfl) dX1_outcome_93 ?_
    refine W.eq (g2 := F0 m 96 ls [.long ((l_mn ((1000000000 : Int64)) ((y.toInt64 + z.toInt64)))), .long ((-1000000000 : Int64))]) rfl ?_
    refine va_mmax_long hx hb (hml.trans hl.1.symm) hown m25 t25 iMath c25 (Nat.le_of_ble_eq_true rfl) (Nat.le_of_ble_eq_true rfl) (Nat.le_of_ble_eq_true rfl) (Nat.le_of_ble_eq_true rfl) dX1_outcome_96 ?_
    refine W.eq (g2 := F0 m 99 ls [.long ((l_mx ((-1000000000 : Int64)) ((l_mn ((1000000000 : Int64)) ((y.toInt64 + z.toInt64))))))]) rfl ?_
    refine lv_l2i hx hb dX1_outcome_99 rfl ?_
    exact wr_iret hx hb hr rfl hK hw ⟨rfl, by unfold E_X1_outcome; rw [if_pos q1]⟩ hlocks dX1_outcome_100
  by_cases q2 : k = nI 2
  · refine lv_tableIn (off := 44) (tgt := 45) hx hb dX1_outcome_1 (by rw [q2]; decide) (by rw [q2]; decide) (by rw [q2]; decide) (by decide) ?_
    refine lv_iload_n hx hb dX1_outcome_45 rfl (lv_at hl 1 rfl) ?_
    refine lv_i2l hx hb dX1_outcome_46 rfl ?_
    refine lv_iload_n hx hb dX1_outcome_47 rfl (lv_at hl 2 rfl) ?_
    refine lv_i2l hx hb dX1_outcome_48 rfl ?_
    refine lv_lsub hx hb dX1_outcome_49 ?_
    refine lv_lstore_n (lv' := [(3, .long ((y.toInt64 - z.toInt64))), (0, .int k), (1, .int y), (2, .int z)]) hx hb dX1_outcome_50 rfl hl (by decide) rfl (fun ls hl => ?_)
    refine lv_goto (tgt := 86) hx hb dX1_outcome_51 (by decide) ?_
    refine lv_ldc2 hx hb hown k18 dX1_outcome_86 ?_
    refine lv_ldc2 hx hb hown k20 dX1_outcome_89 ?_
    refine lv_lload_n hx hb dX1_outcome_92 rfl (lv_at hl 0 rfl) ?_
    refine va_mmin_long hx hb (hml.trans hl.1.symm) hown m22 t22 iMath c22 (Nat.le_of_ble_eq_true rfl) (Nat.le_of_ble_eq_true rfl) (Nat.le_of_ble_eq_true rfl) (Nat.le_of_ble_eq_true rfl) dX1_outcome_93 ?_
    refine W.eq (g2 := F0 m 96 ls [.long ((l_mn ((1000000000 : Int64)) ((y.toInt64 - z.toInt64)))), .long ((-1000000000 : Int64))]) rfl ?_
    refine va_mmax_long hx hb (hml.trans hl.1.symm) hown m25 t25 iMath c25 (Nat.le_of_ble_eq_true rfl) (Nat.le_of_ble_eq_true rfl) (Nat.le_of_ble_eq_true rfl) (Nat.le_of_ble_eq_true rfl) dX1_outcome_96 ?_
    refine W.eq (g2 := F0 m 99 ls [.long ((l_mx ((-1000000000 : Int64)) ((l_mn ((1000000000 : Int64)) ((y.toInt64 - z.toInt64))))))]) rfl ?_
    refine lv_l2i hx hb dX1_outcome_99 rfl ?_
    exact wr_iret hx hb hr rfl hK hw ⟨rfl, by unfold E_X1_outcome; rw [if_neg q1, if_pos q2]⟩ hlocks dX1_outcome_100
  by_cases q3 : k = nI 3
  · refine lv_tableIn (off := 53) (tgt := 54) hx hb dX1_outcome_1 (by rw [q3]; decide) (by rw [q3]; decide) (by rw [q3]; decide) (by decide) ?_
    refine lv_iload_n hx hb dX1_outcome_54 rfl (lv_at hl 1 rfl) ?_
    refine lv_i2l hx hb dX1_outcome_55 rfl ?_
    refine lv_iload_n hx hb dX1_outcome_56 rfl (lv_at hl 2 rfl) ?_
    refine lv_i2l hx hb dX1_outcome_57 rfl ?_
    refine lv_lmul hx hb dX1_outcome_58 ?_
    refine lv_lstore_n (lv' := [(3, .long ((y.toInt64 * z.toInt64))), (0, .int k), (1, .int y), (2, .int z)]) hx hb dX1_outcome_59 rfl hl (by decide) rfl (fun ls hl => ?_)
    refine lv_goto (tgt := 86) hx hb dX1_outcome_60 (by decide) ?_
    refine lv_ldc2 hx hb hown k18 dX1_outcome_86 ?_
    refine lv_ldc2 hx hb hown k20 dX1_outcome_89 ?_
    refine lv_lload_n hx hb dX1_outcome_92 rfl (lv_at hl 0 rfl) ?_
    refine va_mmin_long hx hb (hml.trans hl.1.symm) hown m22 t22 iMath c22 (Nat.le_of_ble_eq_true rfl) (Nat.le_of_ble_eq_true rfl) (Nat.le_of_ble_eq_true rfl) (Nat.le_of_ble_eq_true rfl) dX1_outcome_93 ?_
    refine W.eq (g2 := F0 m 96 ls [.long ((l_mn ((1000000000 : Int64)) ((y.toInt64 * z.toInt64)))), .long ((-1000000000 : Int64))]) rfl ?_
    refine va_mmax_long hx hb (hml.trans hl.1.symm) hown m25 t25 iMath c25 (Nat.le_of_ble_eq_true rfl) (Nat.le_of_ble_eq_true rfl) (Nat.le_of_ble_eq_true rfl) (Nat.le_of_ble_eq_true rfl) dX1_outcome_96 ?_
    refine W.eq (g2 := F0 m 99 ls [.long ((l_mx ((-1000000000 : Int64)) ((l_mn ((1000000000 : Int64)) ((y.toInt64 * z.toInt64))))))]) rfl ?_
    refine lv_l2i hx hb dX1_outcome_99 rfl ?_
    exact wr_iret hx hb hr rfl hK hw ⟨rfl, by unfold E_X1_outcome; rw [if_neg q1, if_neg q2, if_pos q3]⟩ hlocks dX1_outcome_100
  by_cases q4 : k = nI 4
  · refine lv_tableIn (off := 62) (tgt := 63) hx hb dX1_outcome_1 (by rw [q4]; decide) (by rw [q4]; decide) (by rw [q4]; decide) (by decide) ?_
    refine lv_iload_n hx hb dX1_outcome_63 rfl (lv_at hl 1 rfl) ?_
    refine lv_iload_n hx hb dX1_outcome_64 rfl (lv_at hl 2 rfl) ?_
    refine va_mmin hx hb (hml.trans hl.1.symm) hown m9 t9 iMath c9 (Nat.le_of_ble_eq_true rfl) (Nat.le_of_ble_eq_true rfl) (Nat.le_of_ble_eq_true rfl) (Nat.le_of_ble_eq_true rfl) dX1_outcome_65 ?_
    refine W.eq (g2 := F0 m 68 ls [.int ((i_mn y z))]) rfl ?_
    refine lv_i2l hx hb dX1_outcome_68 rfl ?_
    refine lv_lstore_n (lv' := [(3, .long (((i_mn y z)).toInt64)), (0, .int k), (1, .int y), (2, .int z)]) hx hb dX1_outcome_69 rfl hl (by decide) rfl (fun ls hl => ?_)
    refine lv_goto (tgt := 86) hx hb dX1_outcome_70 (by decide) ?_
    refine lv_ldc2 hx hb hown k18 dX1_outcome_86 ?_
    refine lv_ldc2 hx hb hown k20 dX1_outcome_89 ?_
    refine lv_lload_n hx hb dX1_outcome_92 rfl (lv_at hl 0 rfl) ?_
    refine va_mmin_long hx hb (hml.trans hl.1.symm) hown m22 t22 iMath c22 (Nat.le_of_ble_eq_true rfl) (Nat.le_of_ble_eq_true rfl) (Nat.le_of_ble_eq_true rfl) (Nat.le_of_ble_eq_true rfl) dX1_outcome_93 ?_
    refine W.eq (g2 := F0 m 96 ls [.long ((l_mn ((1000000000 : Int64)) (((i_mn y z)).toInt64))), .long ((-1000000000 : Int64))]) rfl ?_
    refine va_mmax_long hx hb (hml.trans hl.1.symm) hown m25 t25 iMath c25 (Nat.le_of_ble_eq_true rfl) (Nat.le_of_ble_eq_true rfl) (Nat.le_of_ble_eq_true rfl) (Nat.le_of_ble_eq_true rfl) dX1_outcome_96 ?_
    refine W.eq (g2 := F0 m 99 ls [.long ((l_mx ((-1000000000 : Int64)) ((l_mn ((1000000000 : Int64)) (((i_mn y z)).toInt64)))))]) rfl ?_
    refine lv_l2i hx hb dX1_outcome_99 rfl ?_
    exact wr_iret hx hb hr rfl hK hw ⟨rfl, by unfold E_X1_outcome; rw [if_neg q1, if_neg q2, if_neg q3, if_pos q4]⟩ hlocks dX1_outcome_100
  by_cases q5 : k = nI 5
  · refine lv_tableIn (off := 72) (tgt := 73) hx hb dX1_outcome_1 (by rw [q5]; decide) (by rw [q5]; decide) (by rw [q5]; decide) (by decide) ?_
    refine lv_iload_n hx hb dX1_outcome_73 rfl (lv_at hl 1 rfl) ?_
    refine lv_iload_n hx hb dX1_outcome_74 rfl (lv_at hl 2 rfl) ?_
    refine va_mmax hx hb (hml.trans hl.1.symm) hown m15 t15 iMath c15 (Nat.le_of_ble_eq_true rfl) (Nat.le_of_ble_eq_true rfl) (Nat.le_of_ble_eq_true rfl) (Nat.le_of_ble_eq_true rfl) dX1_outcome_75 ?_
    refine W.eq (g2 := F0 m 78 ls [.int ((i_mx y z))]) rfl ?_
    refine lv_i2l hx hb dX1_outcome_78 rfl ?_
    refine lv_lstore_n (lv' := [(3, .long (((i_mx y z)).toInt64)), (0, .int k), (1, .int y), (2, .int z)]) hx hb dX1_outcome_79 rfl hl (by decide) rfl (fun ls hl => ?_)
    refine lv_goto (tgt := 86) hx hb dX1_outcome_80 (by decide) ?_
    refine lv_ldc2 hx hb hown k18 dX1_outcome_86 ?_
    refine lv_ldc2 hx hb hown k20 dX1_outcome_89 ?_
    refine lv_lload_n hx hb dX1_outcome_92 rfl (lv_at hl 0 rfl) ?_
    refine va_mmin_long hx hb (hml.trans hl.1.symm) hown m22 t22 iMath c22 (Nat.le_of_ble_eq_true rfl) (Nat.le_of_ble_eq_true rfl) (Nat.le_of_ble_eq_true rfl) (Nat.le_of_ble_eq_true rfl) dX1_outcome_93 ?_
    refine W.eq (g2 := F0 m 96 ls [.long ((l_mn ((1000000000 : Int64)) (((i_mx y z)).toInt64))), .long ((-1000000000 : Int64))]) rfl ?_
    refine va_mmax_long hx hb (hml.trans hl.1.symm) hown m25 t25 iMath c25 (Nat.le_of_ble_eq_true rfl) (Nat.le_of_ble_eq_true rfl) (Nat.le_of_ble_eq_true rfl) (Nat.le_of_ble_eq_true rfl) dX1_outcome_96 ?_
    refine W.eq (g2 := F0 m 99 ls [.long ((l_mx ((-1000000000 : Int64)) ((l_mn ((1000000000 : Int64)) (((i_mx y z)).toInt64)))))]) rfl ?_
    refine lv_l2i hx hb dX1_outcome_99 rfl ?_
    exact wr_iret hx hb hr rfl hK hw ⟨rfl, by unfold E_X1_outcome; rw [if_neg q1, if_neg q2, if_neg q3, if_neg q4, if_pos q5]⟩ hlocks dX1_outcome_100
  refine lv_tableOut (tgt := 83) hx hb dX1_outcome_1 (sw_out 1 5 (by decide) (fun k h1 h2 => by rcases (show k = 1 ∨ k = 2 ∨ k = 3 ∨ k = 4 ∨ k = 5 by omega) with rfl | rfl | rfl | rfl | rfl <;> assumption)) (by decide) ?_
  refine lv_iload_n hx hb dX1_outcome_83 rfl (lv_at hl 1 rfl) ?_
  refine lv_i2l hx hb dX1_outcome_84 rfl ?_
  refine lv_lstore_n (lv' := [(3, .long y.toInt64), (0, .int k), (1, .int y), (2, .int z)]) hx hb dX1_outcome_85 rfl hl (by decide) rfl (fun ls hl => ?_)
  refine lv_ldc2 hx hb hown k18 dX1_outcome_86 ?_
  refine lv_ldc2 hx hb hown k20 dX1_outcome_89 ?_
  refine lv_lload_n hx hb dX1_outcome_92 rfl (lv_at hl 0 rfl) ?_
  refine va_mmin_long hx hb (hml.trans hl.1.symm) hown m22 t22 iMath c22 (Nat.le_of_ble_eq_true rfl) (Nat.le_of_ble_eq_true rfl) (Nat.le_of_ble_eq_true rfl) (Nat.le_of_ble_eq_true rfl) dX1_outcome_93 ?_
  refine W.eq (g2 := F0 m 96 ls [.long ((l_mn ((1000000000 : Int64)) y.toInt64)), .long ((-1000000000 : Int64))]) rfl ?_
  refine va_mmax_long hx hb (hml.trans hl.1.symm) hown m25 t25 iMath c25 (Nat.le_of_ble_eq_true rfl) (Nat.le_of_ble_eq_true rfl) (Nat.le_of_ble_eq_true rfl) (Nat.le_of_ble_eq_true rfl) dX1_outcome_96 ?_
  refine W.eq (g2 := F0 m 99 ls [.long ((l_mx ((-1000000000 : Int64)) ((l_mn ((1000000000 : Int64)) y.toInt64))))]) rfl ?_
  refine lv_l2i hx hb dX1_outcome_99 rfl ?_
  exact wr_iret hx hb hr rfl hK hw ⟨rfl, by unfold E_X1_outcome; rw [if_neg q1, if_neg q2, if_neg q3, if_neg q4, if_neg q5]⟩ hlocks dX1_outcome_100
def E_X1_isTrue (M : wM) (x : Int32) (r : Int32) (y : Int32) : Int32 := (if r = nI 0 then (if y ≤ x then nI 0 else nI 1) else (if r = nI 1 then (if y < x then nI 0 else nI 1) else (if r = nI 2 then (if x = y then nI 1 else nI 0) else (if x = y then nI 0 else nI 1))))
set_option maxHeartbeats 4000000 in
set_option maxRecDepth 100000 in
theorem k_X1_isTrue (l : Launch) (D : va_G) (ad : Nat → Nat) (cs : Nat → ClassId) (sz : Nat) (M : wM) (J : wJ) (x : Int32) (r : Int32) (y : Int32)  : wCi l yX1_isTrue wsX1_isTrue { frames := 0, cells := 0, slots := 0, locals := 0 } D 340 cSh ad cs [.int x, .int r, .int y] sz M J (fun r_ u_ => u_ = (M, J) ∧ r_ = E_X1_isTrue M x r y) := by
  refine wC_i (cc := cX1_isTrue) (maxL := 3) (ret := (some .boolean)) (by decide) rfl (Nat.le_of_ble_eq_true rfl) ?_
  intro p e s m below meth c ls A hx hb hr hml hown hts hlocks hK hA hw hl hAe
  clear hAe
  have hl : lv_has ls 3 [(0, .int x), (1, .int r), (2, .int y)] := hl
  refine lv_iload_n hx hb dX1_isTrue_0 rfl (lv_at hl 1 rfl) ?_
  by_cases q1 : r = nI 0
  · refine lv_tableIn (off := 27) (tgt := 28) hx hb dX1_isTrue_1 (by rw [q1]; decide) (by rw [q1]; decide) (by rw [q1]; decide) (by decide) ?_
    refine lv_iload_n hx hb dX1_isTrue_28 rfl (lv_at hl 0 rfl) ?_
    refine lv_iload_n hx hb dX1_isTrue_29 rfl (lv_at hl 2 rfl) ?_
    refine lv_icmp_ge (tgt := 37) hx hb dX1_isTrue_30 (by decide) (fun q2 => ?_) (fun q2 => ?_)
    · skip
      refine lv_iconst (v := nI 0) hx hb dX1_isTrue_37 (by decide) ?_
      exact wr_iret hx hb hr (by decide) hK hw ⟨rfl, by unfold E_X1_isTrue; rw [if_pos q1, if_pos q2]⟩ hlocks dX1_isTrue_38
    · skip
      refine lv_iconst (v := nI 1) hx hb dX1_isTrue_33 (by decide) ?_
      refine lv_goto (tgt := 38) hx hb dX1_isTrue_34 (by decide) ?_
      exact wr_iret hx hb hr (by decide) hK hw ⟨rfl, by unfold E_X1_isTrue; rw [if_pos q1, if_neg q2]⟩ hlocks dX1_isTrue_38
  by_cases q3 : r = nI 1
  · refine lv_tableIn (off := 38) (tgt := 39) hx hb dX1_isTrue_1 (by rw [q3]; decide) (by rw [q3]; decide) (by rw [q3]; decide) (by decide) ?_
    refine lv_iload_n hx hb dX1_isTrue_39 rfl (lv_at hl 0 rfl) ?_
    refine lv_iload_n hx hb dX1_isTrue_40 rfl (lv_at hl 2 rfl) ?_
    refine lv_icmp_gt (tgt := 48) hx hb dX1_isTrue_41 (by decide) (fun q4 => ?_) (fun q4 => ?_)
    · skip
      refine lv_iconst (v := nI 0) hx hb dX1_isTrue_48 (by decide) ?_
      exact wr_iret hx hb hr (by decide) hK hw ⟨rfl, by unfold E_X1_isTrue; rw [if_neg q1, if_pos q3, if_pos q4]⟩ hlocks dX1_isTrue_49
    · skip
      refine lv_iconst (v := nI 1) hx hb dX1_isTrue_44 (by decide) ?_
      refine lv_goto (tgt := 49) hx hb dX1_isTrue_45 (by decide) ?_
      exact wr_iret hx hb hr (by decide) hK hw ⟨rfl, by unfold E_X1_isTrue; rw [if_neg q1, if_pos q3, if_neg q4]⟩ hlocks dX1_isTrue_49
  by_cases q5 : r = nI 2
  · refine lv_tableIn (off := 49) (tgt := 50) hx hb dX1_isTrue_1 (by rw [q5]; decide) (by rw [q5]; decide) (by rw [q5]; decide) (by decide) ?_
    refine lv_iload_n hx hb dX1_isTrue_50 rfl (lv_at hl 0 rfl) ?_
    refine lv_iload_n hx hb dX1_isTrue_51 rfl (lv_at hl 2 rfl) ?_
    refine lv_icmp_ne (tgt := 59) hx hb dX1_isTrue_52 (by decide) (fun q6 => ?_) (fun q6 => ?_)
    · skip
      refine lv_iconst (v := nI 0) hx hb dX1_isTrue_59 (by decide) ?_
      exact wr_iret hx hb hr (by decide) hK hw ⟨rfl, by unfold E_X1_isTrue; rw [if_neg q1, if_neg q3, if_pos q5, if_neg q6]⟩ hlocks dX1_isTrue_60
    · skip
      refine lv_iconst (v := nI 1) hx hb dX1_isTrue_55 (by decide) ?_
      refine lv_goto (tgt := 60) hx hb dX1_isTrue_56 (by decide) ?_
      exact wr_iret hx hb hr (by decide) hK hw ⟨rfl, by unfold E_X1_isTrue; rw [if_neg q1, if_neg q3, if_pos q5, if_pos q6]⟩ hlocks dX1_isTrue_60
  refine lv_tableOut (tgt := 61) hx hb dX1_isTrue_1 (sw_out 0 2 (by decide) (fun k h1 h2 => by rcases (show k = 0 ∨ k = 1 ∨ k = 2 by omega) with rfl | rfl | rfl <;> assumption)) (by decide) ?_
  refine lv_iload_n hx hb dX1_isTrue_61 rfl (lv_at hl 0 rfl) ?_
  refine lv_iload_n hx hb dX1_isTrue_62 rfl (lv_at hl 2 rfl) ?_
  refine lv_icmp_eq (tgt := 70) hx hb dX1_isTrue_63 (by decide) (fun q7 => ?_) (fun q7 => ?_)
  · skip
    refine lv_iconst (v := nI 0) hx hb dX1_isTrue_70 (by decide) ?_
    exact wr_iret hx hb hr (by decide) hK hw ⟨rfl, by unfold E_X1_isTrue; rw [if_neg q1, if_neg q3, if_neg q5, if_pos q7]⟩ hlocks dX1_isTrue_71
  · skip
    refine lv_iconst (v := nI 1) hx hb dX1_isTrue_66 (by decide) ?_
    refine lv_goto (tgt := 71) hx hb dX1_isTrue_67 (by decide) ?_
    exact wr_iret hx hb hr (by decide) hK hw ⟨rfl, by unfold E_X1_isTrue; rw [if_neg q1, if_neg q3, if_neg q5, if_neg q7]⟩ hlocks dX1_isTrue_71
def E_X1_oppositeOfSwapped (M : wM) (r : Int32) : Int32 := (if r = nI 0 then nI 1 else (if r = nI 1 then nI 0 else (if r = nI 2 then nI 3 else nI 2)))
set_option maxHeartbeats 4000000 in
set_option maxRecDepth 100000 in
theorem k_X1_oppositeOfSwapped (l : Launch) (D : va_G) (ad : Nat → Nat) (cs : Nat → ClassId) (sz : Nat) (M : wM) (J : wJ) (r : Int32)  : wCi l yX1_oppositeOfSwapped wsX1_oppositeOfSwapped { frames := 0, cells := 0, slots := 0, locals := 0 } D 340 cSh ad cs [.int r] sz M J (fun r_ u_ => u_ = (M, J) ∧ r_ = E_X1_oppositeOfSwapped M r) := by
  refine wC_i (cc := cX1_oppositeOfSwapped) (maxL := 1) (ret := (some .int)) (by decide) rfl (Nat.le_of_ble_eq_true rfl) ?_
  intro p e s m below meth c ls A hx hb hr hml hown hts hlocks hK hA hw hl hAe
  clear hAe
  have hl : lv_has ls 1 [(0, .int r)] := hl
  refine lv_iload_n hx hb dX1_oppositeOfSwapped_0 rfl (lv_at hl 0 rfl) ?_
  by_cases q1 : r = nI 0
  · refine lv_tableIn (off := 27) (tgt := 28) hx hb dX1_oppositeOfSwapped_1 (by rw [q1]; decide) (by rw [q1]; decide) (by rw [q1]; decide) (by decide) ?_
    refine lv_iconst (v := nI 1) hx hb dX1_oppositeOfSwapped_28 (by decide) ?_
    exact wr_iret hx hb hr rfl hK hw ⟨rfl, by unfold E_X1_oppositeOfSwapped; rw [if_pos q1]⟩ hlocks dX1_oppositeOfSwapped_29
  by_cases q2 : r = nI 1
  · refine lv_tableIn (off := 29) (tgt := 30) hx hb dX1_oppositeOfSwapped_1 (by rw [q2]; decide) (by rw [q2]; decide) (by rw [q2]; decide) (by decide) ?_
    refine lv_iconst (v := nI 0) hx hb dX1_oppositeOfSwapped_30 (by decide) ?_
    exact wr_iret hx hb hr rfl hK hw ⟨rfl, by unfold E_X1_oppositeOfSwapped; rw [if_neg q1, if_pos q2]⟩ hlocks dX1_oppositeOfSwapped_31
  by_cases q3 : r = nI 2
  · refine lv_tableIn (off := 31) (tgt := 32) hx hb dX1_oppositeOfSwapped_1 (by rw [q3]; decide) (by rw [q3]; decide) (by rw [q3]; decide) (by decide) ?_
    refine lv_iconst (v := nI 3) hx hb dX1_oppositeOfSwapped_32 (by decide) ?_
    exact wr_iret hx hb hr rfl hK hw ⟨rfl, by unfold E_X1_oppositeOfSwapped; rw [if_neg q1, if_neg q2, if_pos q3]⟩ hlocks dX1_oppositeOfSwapped_33
  refine lv_tableOut (tgt := 34) hx hb dX1_oppositeOfSwapped_1 (sw_out 0 2 (by decide) (fun k h1 h2 => by rcases (show k = 0 ∨ k = 1 ∨ k = 2 by omega) with rfl | rfl | rfl <;> assumption)) (by decide) ?_
  refine lv_iconst (v := nI 2) hx hb dX1_oppositeOfSwapped_34 (by decide) ?_
  exact wr_iret hx hb hr rfl hK hw ⟨rfl, by unfold E_X1_oppositeOfSwapped; rw [if_neg q1, if_neg q2, if_neg q3]⟩ hlocks dX1_oppositeOfSwapped_35
def F_X7_setRange (M : wM) (i : Nat) (v : Nat) (lo : Int32) (up : Int32) : wM := (wU (wU M (3 * i + 1) v lo) (3 * i + 2) v up)
set_option maxHeartbeats 4000000 in
set_option maxRecDepth 100000 in
theorem k_X7_setRange (l : Launch) (D : va_G) (ad : Nat → Nat) (cs : Nat → ClassId) (sz : Nat) (M : wM) (J : wJ) (i : Nat) (v : Nat) (lo : Int32) (up : Int32) (hi : i < 67) (hv : v < 6) : wCv l yX7_setRange wsX7_setRange { frames := 0, cells := 0, slots := 0, locals := 0 } D 340 cSh ad cs [.ref (ad (3 * i)), .int (nI v), .int lo, .int up] sz M J (fun u_ => u_ = (F_X7_setRange M i v lo up, J)) := by
  refine wC_v (cc := cX7_setRange) (maxL := 4) (ret := none) (by decide) rfl (Nat.le_of_ble_eq_true rfl) ?_
  intro p e s m below meth c ls A hx hb hr hml hown hts hlocks hK hA hw hl hAe
  clear hAe
  have hl : lv_has ls 4 [(0, .ref (ad (3 * i))), (1, .int (nI v)), (2, .int lo), (3, .int up)] := hl
  have f15 : (Cond.fieldLink RX7 15 "RangePropagator$State" "low" "[I").before _ s = true := hts _ (by decide +kernel)
  have iX7 : ∀ w ∈ wsX70, w ∈ wsX7_setRange := by decide +kernel
  have f19 : (Cond.fieldLink RX7 19 "RangePropagator$State" "high" "[I").before _ s = true := hts _ (by decide +kernel)
  refine lv_aload_n hx hb dX7_setRange_0 rfl (lv_at hl 0 rfl) ?_
  refine wr_gr hx hb hown hK hts iX7 (ci := 6) rfl 1 (by decide) f15 rfl hw (3 * i) (by omega) (3 * i + 1) (cs_S (by omega)) rfl dX7_setRange_1 ?_
  refine lv_iload_n hx hb dX7_setRange_4 rfl (lv_at hl 1 rfl) ?_
  refine lv_iload_n hx hb dX7_setRange_5 rfl (lv_at hl 2 rfl) ?_
  refine wr_istN hx hb hK hw (3 * i + 1) (by omega) (cs_SL (by omega)) (by decide) v rfl (by omega) dX7_setRange_6 (fun H locs hw => ?_)
  refine lv_aload_n hx hb dX7_setRange_7 rfl (lv_at hl 0 rfl) ?_
  refine wr_gr hx hb hown hK hts iX7 (ci := 6) rfl 2 (by decide) f19 rfl hw (3 * i) (by omega) (3 * i + 2) (cs_S (by omega)) rfl dX7_setRange_8 ?_
  refine lv_iload_n hx hb dX7_setRange_11 rfl (lv_at hl 1 rfl) ?_
  refine lv_iload_n hx hb dX7_setRange_12 rfl (lv_at hl 3 rfl) ?_
  refine wr_istN hx hb hK hw (3 * i + 2) (by omega) (cs_SH (by omega)) (by decide) v rfl (by omega) dX7_setRange_13 (fun H locs hw => ?_)
  exact wr_vret hx hb hr hK hw (by show (_, _) = (_, _); unfold F_X7_setRange; rfl) hlocks dX7_setRange_14
def E_X7_isConstant (M : wM) (i : Nat) (v : Nat) : Int32 := (if M (3 * i + 1) v = M (3 * i + 2) v then nI 1 else nI 0)
set_option maxHeartbeats 4000000 in
set_option maxRecDepth 100000 in
theorem k_X7_isConstant (l : Launch) (D : va_G) (ad : Nat → Nat) (cs : Nat → ClassId) (sz : Nat) (M : wM) (J : wJ) (i : Nat) (v : Nat) (hi : i < 67) (hv : v < 6) : wCi l yX7_isConstant wsX7_isConstant { frames := 0, cells := 0, slots := 0, locals := 0 } D 340 cSh ad cs [.ref (ad (3 * i)), .int (nI v)] sz M J (fun r_ u_ => u_ = (M, J) ∧ r_ = E_X7_isConstant M i v) := by
  refine wC_i (cc := cX7_isConstant) (maxL := 2) (ret := (some .boolean)) (by decide) rfl (Nat.le_of_ble_eq_true rfl) ?_
  intro p e s m below meth c ls A hx hb hr hml hown hts hlocks hK hA hw hl hAe
  clear hAe
  have hl : lv_has ls 2 [(0, .ref (ad (3 * i))), (1, .int (nI v))] := hl
  have f15 : (Cond.fieldLink RX7 15 "RangePropagator$State" "low" "[I").before _ s = true := hts _ (by decide +kernel)
  have iX7 : ∀ w ∈ wsX70, w ∈ wsX7_isConstant := by decide +kernel
  have f19 : (Cond.fieldLink RX7 19 "RangePropagator$State" "high" "[I").before _ s = true := hts _ (by decide +kernel)
  refine lv_aload_n hx hb dX7_isConstant_0 rfl (lv_at hl 0 rfl) ?_
  refine wr_gr hx hb hown hK hts iX7 (ci := 6) rfl 1 (by decide) f15 rfl hw (3 * i) (by omega) (3 * i + 1) (cs_S (by omega)) rfl dX7_isConstant_1 ?_
  refine lv_iload_n hx hb dX7_isConstant_4 rfl (lv_at hl 1 rfl) ?_
  refine wr_ildN hx hb hK hw (3 * i + 1) (by omega) (cs_SL (by omega)) (by decide) v rfl (by omega) dX7_isConstant_5 ?_
  refine lv_aload_n hx hb dX7_isConstant_6 rfl (lv_at hl 0 rfl) ?_
  refine wr_gr hx hb hown hK hts iX7 (ci := 6) rfl 2 (by decide) f19 rfl hw (3 * i) (by omega) (3 * i + 2) (cs_S (by omega)) rfl dX7_isConstant_7 ?_
  refine lv_iload_n hx hb dX7_isConstant_10 rfl (lv_at hl 1 rfl) ?_
  refine wr_ildN hx hb hK hw (3 * i + 2) (by omega) (cs_SH (by omega)) (by decide) v rfl (by omega) dX7_isConstant_11 ?_
  refine lv_icmp_ne (tgt := 19) hx hb dX7_isConstant_12 (by decide) (fun q1 => ?_) (fun q1 => ?_)
  · skip
    refine lv_iconst (v := nI 0) hx hb dX7_isConstant_19 (by decide) ?_
    exact wr_iret hx hb hr (by decide) hK hw ⟨rfl, by unfold E_X7_isConstant; rw [if_neg q1]⟩ hlocks dX7_isConstant_20
  · skip
    refine lv_iconst (v := nI 1) hx hb dX7_isConstant_15 (by decide) ?_
    refine lv_goto (tgt := 20) hx hb dX7_isConstant_16 (by decide) ?_
    exact wr_iret hx hb hr (by decide) hK hw ⟨rfl, by unfold E_X7_isConstant; rw [if_pos q1]⟩ hlocks dX7_isConstant_20
def F_X7_cutOff (M : wM) (i : Nat) (v : Nat) (a : Int32) : wM := (if M (3 * i + 1) v = a then (wU M (3 * i + 1) v ((a + (nI 1)))) else (if M (3 * i + 2) v = a then (wU M (3 * i + 2) v ((a - (nI 1)))) else M))
set_option maxHeartbeats 4000000 in
set_option maxRecDepth 100000 in
theorem k_X7_cutOff (l : Launch) (D : va_G) (ad : Nat → Nat) (cs : Nat → ClassId) (sz : Nat) (M : wM) (J : wJ) (i : Nat) (v : Nat) (a : Int32) (hi : i < 67) (hv : v < 6) : wCv l yX7_cutOff wsX7_cutOff { frames := 0, cells := 0, slots := 0, locals := 0 } D 340 cSh ad cs [.ref (ad (3 * i)), .int (nI v), .int a] sz M J (fun u_ => u_ = (F_X7_cutOff M i v a, J)) := by
  refine wC_v (cc := cX7_cutOff) (maxL := 3) (ret := none) (by decide) rfl (Nat.le_of_ble_eq_true rfl) ?_
  intro p e s m below meth c ls A hx hb hr hml hown hts hlocks hK hA hw hl hAe
  clear hAe
  have hl : lv_has ls 3 [(0, .ref (ad (3 * i))), (1, .int (nI v)), (2, .int a)] := hl
  have f15 : (Cond.fieldLink RX7 15 "RangePropagator$State" "low" "[I").before _ s = true := hts _ (by decide +kernel)
  have iX7 : ∀ w ∈ wsX70, w ∈ wsX7_cutOff := by decide +kernel
  have f19 : (Cond.fieldLink RX7 19 "RangePropagator$State" "high" "[I").before _ s = true := hts _ (by decide +kernel)
  refine lv_aload_n hx hb dX7_cutOff_0 rfl (lv_at hl 0 rfl) ?_
  refine wr_gr hx hb hown hK hts iX7 (ci := 6) rfl 1 (by decide) f15 rfl hw (3 * i) (by omega) (3 * i + 1) (cs_S (by omega)) rfl dX7_cutOff_1 ?_
  refine lv_iload_n hx hb dX7_cutOff_4 rfl (lv_at hl 1 rfl) ?_
  refine wr_ildN hx hb hK hw (3 * i + 1) (by omega) (cs_SL (by omega)) (by decide) v rfl (by omega) dX7_cutOff_5 ?_
  refine lv_iload_n hx hb dX7_cutOff_6 rfl (lv_at hl 2 rfl) ?_
  refine lv_icmp_ne (tgt := 22) hx hb dX7_cutOff_7 (by decide) (fun q1 => ?_) (fun q1 => ?_)
  · skip
    refine lv_aload_n hx hb dX7_cutOff_22 rfl (lv_at hl 0 rfl) ?_
    refine wr_gr hx hb hown hK hts iX7 (ci := 6) rfl 2 (by decide) f19 rfl hw (3 * i) (by omega) (3 * i + 2) (cs_S (by omega)) rfl dX7_cutOff_23 ?_
    refine lv_iload_n hx hb dX7_cutOff_26 rfl (lv_at hl 1 rfl) ?_
    refine wr_ildN hx hb hK hw (3 * i + 2) (by omega) (cs_SH (by omega)) (by decide) v rfl (by omega) dX7_cutOff_27 ?_
    refine lv_iload_n hx hb dX7_cutOff_28 rfl (lv_at hl 2 rfl) ?_
    refine lv_icmp_ne (tgt := 41) hx hb dX7_cutOff_29 (by decide) (fun q2 => ?_) (fun q2 => ?_)
    · skip
      exact wr_vret hx hb hr hK hw (by show (_, _) = (_, _); unfold F_X7_cutOff; rw [if_neg q1, if_neg q2]) hlocks dX7_cutOff_41
    · skip
      refine lv_aload_n hx hb dX7_cutOff_32 rfl (lv_at hl 0 rfl) ?_
      refine wr_gr hx hb hown hK hts iX7 (ci := 6) rfl 2 (by decide) f19 rfl hw (3 * i) (by omega) (3 * i + 2) (cs_S (by omega)) rfl dX7_cutOff_33 ?_
      refine lv_iload_n hx hb dX7_cutOff_36 rfl (lv_at hl 1 rfl) ?_
      refine lv_iload_n hx hb dX7_cutOff_37 rfl (lv_at hl 2 rfl) ?_
      refine lv_iconst (v := nI 1) hx hb dX7_cutOff_38 (by decide) ?_
      refine lv_isub hx hb dX7_cutOff_39 ?_
      refine wr_istN hx hb hK hw (3 * i + 2) (by omega) (cs_SH (by omega)) (by decide) v rfl (by omega) dX7_cutOff_40 (fun H locs hw => ?_)
      exact wr_vret hx hb hr hK hw (by show (_, _) = (_, _); unfold F_X7_cutOff; rw [if_neg q1, if_pos q2]) hlocks dX7_cutOff_41
  · skip
    refine lv_aload_n hx hb dX7_cutOff_10 rfl (lv_at hl 0 rfl) ?_
    refine wr_gr hx hb hown hK hts iX7 (ci := 6) rfl 1 (by decide) f15 rfl hw (3 * i) (by omega) (3 * i + 1) (cs_S (by omega)) rfl dX7_cutOff_11 ?_
    refine lv_iload_n hx hb dX7_cutOff_14 rfl (lv_at hl 1 rfl) ?_
    refine lv_iload_n hx hb dX7_cutOff_15 rfl (lv_at hl 2 rfl) ?_
    refine lv_iconst (v := nI 1) hx hb dX7_cutOff_16 (by decide) ?_
    refine lv_iadd hx hb dX7_cutOff_17 ?_
    refine wr_istN hx hb hK hw (3 * i + 1) (by omega) (cs_SL (by omega)) (by decide) v rfl (by omega) dX7_cutOff_18 (fun H locs hw => ?_)
    refine lv_goto (tgt := 41) hx hb dX7_cutOff_19 (by decide) ?_
    exact wr_vret hx hb hr hK hw (by show (_, _) = (_, _); unfold F_X7_cutOff; rw [if_pos q1]) hlocks dX7_cutOff_41
def F_X7_keepOrdered (M : wM) (i : Nat) (x : Nat) (y : Nat) (g : Int32) : wM := (if ((M (3 * i + 1) x) + g) ≤ M (3 * i + 2) y then (wU (wU M (3 * i + 2) x ((i_mn (M (3 * i + 2) x) (((M (3 * i + 2) y) - g))))) (3 * i + 1) y ((i_mx ((wU M (3 * i + 2) x ((i_mn (M (3 * i + 2) x) (((M (3 * i + 2) y) - g))))) (3 * i + 1) y) ((((wU M (3 * i + 2) x ((i_mn (M (3 * i + 2) x) (((M (3 * i + 2) y) - g))))) (3 * i + 1) x) + g))))) else (wU M (3 * i) 0 (nI 1)))
set_option maxHeartbeats 4000000 in
set_option maxRecDepth 100000 in
theorem k_X7_keepOrdered (l : Launch) (D : va_G) (ad : Nat → Nat) (cs : Nat → ClassId) (sz : Nat) (M : wM) (J : wJ) (i : Nat) (x : Nat) (y : Nat) (g : Int32) (hi : i < 67) (hx6 : x < 6) (hy6 : y < 6) : wCv l yX7_keepOrdered wsX7_keepOrdered { frames := 1, cells := 0, slots := 0, locals := 31 } D 340 cSh ad cs [.ref (ad (3 * i)), .int (nI x), .int (nI y), .int g] sz M J (fun u_ => u_ = (F_X7_keepOrdered M i x y g, J)) := by
  refine wC_v (cc := cX7_keepOrdered) (maxL := 4) (ret := none) (by decide) rfl (Nat.le_of_ble_eq_true rfl) ?_
  intro p e s m below meth c ls A hx hb hr hml hown hts hlocks hK hA hw hl hAe
  clear hAe
  have hl : lv_has ls 4 [(0, .ref (ad (3 * i))), (1, .int (nI x)), (2, .int (nI y)), (3, .int g)] := hl
  have f15 : (Cond.fieldLink RX7 15 "RangePropagator$State" "low" "[I").before _ s = true := hts _ (by decide +kernel)
  have iX7 : ∀ w ∈ wsX70, w ∈ wsX7_keepOrdered := by decide +kernel
  have f19 : (Cond.fieldLink RX7 19 "RangePropagator$State" "high" "[I").before _ s = true := hts _ (by decide +kernel)
  have m32 : (Cond.methodLink RX7 32 Lib.Math.min.name).before _ s = true := hts _ (by decide +kernel)
  have t32 : (Cond.static Lib.Math.min.name).before _ s = true := hts _ (by decide +kernel)
  have iMath : (Cond.initialized "java/lang/Math").before _ s = true := hts _ (by decide +kernel)
  have c32 : (Cond.code Lib.Math.min.name Lib.Math.min.code 2 (some .int)).before _ s = true := hts _ (by decide +kernel)
  have m38 : (Cond.methodLink RX7 38 Lib.Math.max.name).before _ s = true := hts _ (by decide +kernel)
  have t38 : (Cond.static Lib.Math.max.name).before _ s = true := hts _ (by decide +kernel)
  have c38 : (Cond.code Lib.Math.max.name Lib.Math.max.code 2 (some .int)).before _ s = true := hts _ (by decide +kernel)
  have f9 : (Cond.fieldLink RX7 9 "RangePropagator$State" "isNone" "Z").before _ s = true := hts _ (by decide +kernel)
  refine lv_aload_n hx hb dX7_keepOrdered_0 rfl (lv_at hl 0 rfl) ?_
  refine wr_gr hx hb hown hK hts iX7 (ci := 6) rfl 1 (by decide) f15 rfl hw (3 * i) (by omega) (3 * i + 1) (cs_S (by omega)) rfl dX7_keepOrdered_1 ?_
  refine lv_iload_n hx hb dX7_keepOrdered_4 rfl (lv_at hl 1 rfl) ?_
  refine wr_ildN hx hb hK hw (3 * i + 1) (by omega) (cs_SL (by omega)) (by decide) x rfl (by omega) dX7_keepOrdered_5 ?_
  refine lv_iload_n hx hb dX7_keepOrdered_6 rfl (lv_at hl 3 rfl) ?_
  refine lv_iadd hx hb dX7_keepOrdered_7 ?_
  refine lv_aload_n hx hb dX7_keepOrdered_8 rfl (lv_at hl 0 rfl) ?_
  refine wr_gr hx hb hown hK hts iX7 (ci := 6) rfl 2 (by decide) f19 rfl hw (3 * i) (by omega) (3 * i + 2) (cs_S (by omega)) rfl dX7_keepOrdered_9 ?_
  refine lv_iload_n hx hb dX7_keepOrdered_12 rfl (lv_at hl 2 rfl) ?_
  refine wr_ildN hx hb hK hw (3 * i + 2) (by omega) (cs_SH (by omega)) (by decide) y rfl (by omega) dX7_keepOrdered_13 ?_
  refine lv_icmp_le (tgt := 23) hx hb dX7_keepOrdered_14 (by decide) (fun q1 => ?_) (fun q1 => ?_)
  · skip
    refine lv_aload_n hx hb dX7_keepOrdered_23 rfl (lv_at hl 0 rfl) ?_
    refine wr_gr hx hb hown hK hts iX7 (ci := 6) rfl 2 (by decide) f19 rfl hw (3 * i) (by omega) (3 * i + 2) (cs_S (by omega)) rfl dX7_keepOrdered_24 ?_
    refine lv_iload_n hx hb dX7_keepOrdered_27 rfl (lv_at hl 1 rfl) ?_
    refine lv_aload_n hx hb dX7_keepOrdered_28 rfl (lv_at hl 0 rfl) ?_
    refine wr_gr hx hb hown hK hts iX7 (ci := 6) rfl 2 (by decide) f19 rfl hw (3 * i) (by omega) (3 * i + 2) (cs_S (by omega)) rfl dX7_keepOrdered_29 ?_
    refine lv_iload_n hx hb dX7_keepOrdered_32 rfl (lv_at hl 1 rfl) ?_
    refine wr_ildN hx hb hK hw (3 * i + 2) (by omega) (cs_SH (by omega)) (by decide) x rfl (by omega) dX7_keepOrdered_33 ?_
    refine lv_aload_n hx hb dX7_keepOrdered_34 rfl (lv_at hl 0 rfl) ?_
    refine wr_gr hx hb hown hK hts iX7 (ci := 6) rfl 2 (by decide) f19 rfl hw (3 * i) (by omega) (3 * i + 2) (cs_S (by omega)) rfl dX7_keepOrdered_35 ?_
    refine lv_iload_n hx hb dX7_keepOrdered_38 rfl (lv_at hl 2 rfl) ?_
    refine wr_ildN hx hb hK hw (3 * i + 2) (by omega) (cs_SH (by omega)) (by decide) y rfl (by omega) dX7_keepOrdered_39 ?_
    refine lv_iload_n hx hb dX7_keepOrdered_40 rfl (lv_at hl 3 rfl) ?_
    refine lv_isub hx hb dX7_keepOrdered_41 ?_
    refine va_mmin hx hb (hml.trans hl.1.symm) hown m32 t32 iMath c32 (Nat.le_of_ble_eq_true rfl) (Nat.le_of_ble_eq_true rfl) (Nat.le_of_ble_eq_true rfl) (Nat.le_of_ble_eq_true rfl) dX7_keepOrdered_42 ?_
    refine W.eq (g2 := F0 m 45 ls [.int ((i_mn (M (3 * i + 2) x) (((M (3 * i + 2) y) - g)))), .int (nI x), .ref (ad (3 * i + 2))]) rfl ?_
    refine wr_istN hx hb hK hw (3 * i + 2) (by omega) (cs_SH (by omega)) (by decide) x rfl (by omega) dX7_keepOrdered_45 (fun H locs hw => ?_)
    refine lv_aload_n hx hb dX7_keepOrdered_46 rfl (lv_at hl 0 rfl) ?_
    refine wr_gr hx hb hown hK hts iX7 (ci := 6) rfl 1 (by decide) f15 rfl hw (3 * i) (by omega) (3 * i + 1) (cs_S (by omega)) rfl dX7_keepOrdered_47 ?_
    refine lv_iload_n hx hb dX7_keepOrdered_50 rfl (lv_at hl 2 rfl) ?_
    refine lv_aload_n hx hb dX7_keepOrdered_51 rfl (lv_at hl 0 rfl) ?_
    refine wr_gr hx hb hown hK hts iX7 (ci := 6) rfl 1 (by decide) f15 rfl hw (3 * i) (by omega) (3 * i + 1) (cs_S (by omega)) rfl dX7_keepOrdered_52 ?_
    refine lv_iload_n hx hb dX7_keepOrdered_55 rfl (lv_at hl 2 rfl) ?_
    refine wr_ildN hx hb hK hw (3 * i + 1) (by omega) (cs_SL (by omega)) (by decide) y rfl (by omega) dX7_keepOrdered_56 ?_
    refine lv_aload_n hx hb dX7_keepOrdered_57 rfl (lv_at hl 0 rfl) ?_
    refine wr_gr hx hb hown hK hts iX7 (ci := 6) rfl 1 (by decide) f15 rfl hw (3 * i) (by omega) (3 * i + 1) (cs_S (by omega)) rfl dX7_keepOrdered_58 ?_
    refine lv_iload_n hx hb dX7_keepOrdered_61 rfl (lv_at hl 1 rfl) ?_
    refine wr_ildN hx hb hK hw (3 * i + 1) (by omega) (cs_SL (by omega)) (by decide) x rfl (by omega) dX7_keepOrdered_62 ?_
    refine lv_iload_n hx hb dX7_keepOrdered_63 rfl (lv_at hl 3 rfl) ?_
    refine lv_iadd hx hb dX7_keepOrdered_64 ?_
    refine va_mmax hx hb (hml.trans hl.1.symm) hown m38 t38 iMath c38 (Nat.le_of_ble_eq_true rfl) (Nat.le_of_ble_eq_true rfl) (Nat.le_of_ble_eq_true rfl) (Nat.le_of_ble_eq_true rfl) dX7_keepOrdered_65 ?_
    refine W.eq (g2 := F0 m 68 ls [.int ((i_mx ((wU M (3 * i + 2) x ((i_mn (M (3 * i + 2) x) (((M (3 * i + 2) y) - g))))) (3 * i + 1) y) ((((wU M (3 * i + 2) x ((i_mn (M (3 * i + 2) x) (((M (3 * i + 2) y) - g))))) (3 * i + 1) x) + g)))), .int (nI y), .ref (ad (3 * i + 1))]) rfl ?_
    refine wr_istN hx hb hK hw (3 * i + 1) (by omega) (cs_SL (by omega)) (by decide) y rfl (by omega) dX7_keepOrdered_68 (fun H locs hw => ?_)
    exact wr_vret hx hb hr hK hw (by show (_, _) = (_, _); unfold F_X7_keepOrdered; rw [if_pos q1]) hlocks dX7_keepOrdered_69
  · skip
    refine lv_aload_n hx hb dX7_keepOrdered_17 rfl (lv_at hl 0 rfl) ?_
    refine lv_iconst (v := nI 1) hx hb dX7_keepOrdered_18 (by decide) ?_
    refine wr_pi hx hb hown hK hts iX7 tyX7_ok nmX7 (ci := 6) rfl 0 (by decide) f9 rfl rfl hw (3 * i) (by omega) (cs_S (by omega)) rfl (by decide) (by decide) dX7_keepOrdered_19 (fun H locs hw => ?_)
    exact wr_vret hx hb hr hK hw (by show (_, _) = (_, _); unfold F_X7_keepOrdered; rw [if_neg q1]) hlocks dX7_keepOrdered_22
def F_X7_keepEqual (M : wM) (i : Nat) (x : Nat) (y : Nat) : wM := (if (i_mx (M (3 * i + 1) x) (M (3 * i + 1) y)) ≤ (i_mn (M (3 * i + 2) x) (M (3 * i + 2) y)) then (F_X7_setRange (F_X7_setRange M i x ((i_mx (M (3 * i + 1) x) (M (3 * i + 1) y))) ((i_mn (M (3 * i + 2) x) (M (3 * i + 2) y)))) i y ((i_mx (M (3 * i + 1) x) (M (3 * i + 1) y))) ((i_mn (M (3 * i + 2) x) (M (3 * i + 2) y)))) else (wU M (3 * i) 0 (nI 1)))
set_option maxHeartbeats 4000000 in
set_option maxRecDepth 100000 in
theorem k_X7_keepEqual (l : Launch) (D : va_G) (ad : Nat → Nat) (cs : Nat → ClassId) (sz : Nat) (M : wM) (J : wJ) (i : Nat) (x : Nat) (y : Nat) (hi : i < 67) (hx6 : x < 6) (hy6 : y < 6) : wCv l yX7_keepEqual wsX7_keepEqual { frames := 1, cells := 0, slots := 0, locals := 31 } D 340 cSh ad cs [.ref (ad (3 * i)), .int (nI x), .int (nI y)] sz M J (fun u_ => u_ = (F_X7_keepEqual M i x y, J)) := by
  refine wC_v (cc := cX7_keepEqual) (maxL := 5) (ret := none) (by decide) rfl (Nat.le_of_ble_eq_true rfl) ?_
  intro p e s m below meth c ls A hx hb hr hml hown hts hlocks hK hA hw hl hAe
  clear hAe
  have hl : lv_has ls 5 [(0, .ref (ad (3 * i))), (1, .int (nI x)), (2, .int (nI y))] := hl
  have f15 : (Cond.fieldLink RX7 15 "RangePropagator$State" "low" "[I").before _ s = true := hts _ (by decide +kernel)
  have iX7 : ∀ w ∈ wsX70, w ∈ wsX7_keepEqual := by decide +kernel
  have m38 : (Cond.methodLink RX7 38 Lib.Math.max.name).before _ s = true := hts _ (by decide +kernel)
  have t38 : (Cond.static Lib.Math.max.name).before _ s = true := hts _ (by decide +kernel)
  have iMath : (Cond.initialized "java/lang/Math").before _ s = true := hts _ (by decide +kernel)
  have c38 : (Cond.code Lib.Math.max.name Lib.Math.max.code 2 (some .int)).before _ s = true := hts _ (by decide +kernel)
  have f19 : (Cond.fieldLink RX7 19 "RangePropagator$State" "high" "[I").before _ s = true := hts _ (by decide +kernel)
  have m32 : (Cond.methodLink RX7 32 Lib.Math.min.name).before _ s = true := hts _ (by decide +kernel)
  have t32 : (Cond.static Lib.Math.min.name).before _ s = true := hts _ (by decide +kernel)
  have c32 : (Cond.code Lib.Math.min.name Lib.Math.min.code 2 (some .int)).before _ s = true := hts _ (by decide +kernel)
  have f9 : (Cond.fieldLink RX7 9 "RangePropagator$State" "isNone" "Z").before _ s = true := hts _ (by decide +kernel)
  refine lv_aload_n hx hb dX7_keepEqual_0 rfl (lv_at hl 0 rfl) ?_
  refine wr_gr hx hb hown hK hts iX7 (ci := 6) rfl 1 (by decide) f15 rfl hw (3 * i) (by omega) (3 * i + 1) (cs_S (by omega)) rfl dX7_keepEqual_1 ?_
  refine lv_iload_n hx hb dX7_keepEqual_4 rfl (lv_at hl 1 rfl) ?_
  refine wr_ildN hx hb hK hw (3 * i + 1) (by omega) (cs_SL (by omega)) (by decide) x rfl (by omega) dX7_keepEqual_5 ?_
  refine lv_aload_n hx hb dX7_keepEqual_6 rfl (lv_at hl 0 rfl) ?_
  refine wr_gr hx hb hown hK hts iX7 (ci := 6) rfl 1 (by decide) f15 rfl hw (3 * i) (by omega) (3 * i + 1) (cs_S (by omega)) rfl dX7_keepEqual_7 ?_
  refine lv_iload_n hx hb dX7_keepEqual_10 rfl (lv_at hl 2 rfl) ?_
  refine wr_ildN hx hb hK hw (3 * i + 1) (by omega) (cs_SL (by omega)) (by decide) y rfl (by omega) dX7_keepEqual_11 ?_
  refine va_mmax hx hb (hml.trans hl.1.symm) hown m38 t38 iMath c38 (Nat.le_of_ble_eq_true rfl) (Nat.le_of_ble_eq_true rfl) (Nat.le_of_ble_eq_true rfl) (Nat.le_of_ble_eq_true rfl) dX7_keepEqual_12 ?_
  refine W.eq (g2 := F0 m 15 ls [.int ((i_mx (M (3 * i + 1) x) (M (3 * i + 1) y)))]) rfl ?_
  refine lv_istore_n (lv' := [(3, .int ((i_mx (M (3 * i + 1) x) (M (3 * i + 1) y)))), (0, .ref (ad (3 * i))), (1, .int (nI x)), (2, .int (nI y))]) hx hb dX7_keepEqual_15 rfl hl (by decide) rfl (fun ls hl => ?_)
  refine lv_aload_n hx hb dX7_keepEqual_16 rfl (lv_at hl 1 rfl) ?_
  refine wr_gr hx hb hown hK hts iX7 (ci := 6) rfl 2 (by decide) f19 rfl hw (3 * i) (by omega) (3 * i + 2) (cs_S (by omega)) rfl dX7_keepEqual_17 ?_
  refine lv_iload_n hx hb dX7_keepEqual_20 rfl (lv_at hl 2 rfl) ?_
  refine wr_ildN hx hb hK hw (3 * i + 2) (by omega) (cs_SH (by omega)) (by decide) x rfl (by omega) dX7_keepEqual_21 ?_
  refine lv_aload_n hx hb dX7_keepEqual_22 rfl (lv_at hl 1 rfl) ?_
  refine wr_gr hx hb hown hK hts iX7 (ci := 6) rfl 2 (by decide) f19 rfl hw (3 * i) (by omega) (3 * i + 2) (cs_S (by omega)) rfl dX7_keepEqual_23 ?_
  refine lv_iload_n hx hb dX7_keepEqual_26 rfl (lv_at hl 3 rfl) ?_
  refine wr_ildN hx hb hK hw (3 * i + 2) (by omega) (cs_SH (by omega)) (by decide) y rfl (by omega) dX7_keepEqual_27 ?_
  refine va_mmin hx hb (hml.trans hl.1.symm) hown m32 t32 iMath c32 (Nat.le_of_ble_eq_true rfl) (Nat.le_of_ble_eq_true rfl) (Nat.le_of_ble_eq_true rfl) (Nat.le_of_ble_eq_true rfl) dX7_keepEqual_28 ?_
  refine W.eq (g2 := F0 m 31 ls [.int ((i_mn (M (3 * i + 2) x) (M (3 * i + 2) y)))]) rfl ?_
  refine lv_istore (lv' := [(4, .int ((i_mn (M (3 * i + 2) x) (M (3 * i + 2) y)))), (3, .int ((i_mx (M (3 * i + 1) x) (M (3 * i + 1) y)))), (0, .ref (ad (3 * i))), (1, .int (nI x)), (2, .int (nI y))]) hx hb dX7_keepEqual_31 hl (by decide) rfl (fun ls hl => ?_)
  refine lv_iload_n hx hb dX7_keepEqual_33 rfl (lv_at hl 1 rfl) ?_
  refine lv_iload hx hb dX7_keepEqual_34 (lv_at hl 0 rfl) ?_
  refine lv_icmp_le (tgt := 45) hx hb dX7_keepEqual_36 (by decide) (fun q1 => ?_) (fun q1 => ?_)
  · skip
    refine lv_aload_n hx hb dX7_keepEqual_45 rfl (lv_at hl 2 rfl) ?_
    refine lv_iload_n hx hb dX7_keepEqual_46 rfl (lv_at hl 3 rfl) ?_
    refine lv_iload_n hx hb dX7_keepEqual_47 rfl (lv_at hl 1 rfl) ?_
    refine lv_iload hx hb dX7_keepEqual_48 (lv_at hl 0 rfl) ?_
    refine wr_cVv (k := 3 * i) (ci := 6) (As := [.int (nI x), .int ((i_mx (M (3 * i + 1) x) (M (3 * i + 1) y))), .int ((i_mn (M (3 * i + 2) x) (M (3 * i + 2) y)))]) (rest := []) ⟨hx, hb, hml, hown, hts⟩ (cwV 3 hts gX7_keepEqual_X7_setRange rfl rfl rfl (by decide +kernel) ⟨Nat.le_of_ble_eq_true rfl, Nat.le_of_ble_eq_true rfl⟩) hK hA hw (k_X7_setRange l D ad cs s.heap.size M J i x ((i_mx (M (3 * i + 1) x) (M (3 * i + 1) y))) ((i_mn (M (3 * i + 2) x) (M (3 * i + 2) y))) (by omega) (by omega)) (by omega) (cs_S (by omega)) rfl rfl rfl hl.1 (Nat.le_of_ble_eq_true rfl) ⟨Nat.le_of_ble_eq_true rfl, Nat.le_of_ble_eq_true rfl⟩ dX7_keepEqual_50 (fun M3 J4 H locs h5 hw => ?_)
    cases h5
    refine lv_aload_n hx hb dX7_keepEqual_53 rfl (lv_at hl 2 rfl) ?_
    refine lv_iload_n hx hb dX7_keepEqual_54 rfl (lv_at hl 4 rfl) ?_
    refine lv_iload_n hx hb dX7_keepEqual_55 rfl (lv_at hl 1 rfl) ?_
    refine lv_iload hx hb dX7_keepEqual_56 (lv_at hl 0 rfl) ?_
    refine wr_cVv (k := 3 * i) (ci := 6) (As := [.int (nI y), .int ((i_mx (M (3 * i + 1) x) (M (3 * i + 1) y))), .int ((i_mn (M (3 * i + 2) x) (M (3 * i + 2) y)))]) (rest := []) ⟨hx, hb, hml, hown, hts⟩ (cwV 3 hts gX7_keepEqual_X7_setRange rfl rfl rfl (by decide +kernel) ⟨Nat.le_of_ble_eq_true rfl, Nat.le_of_ble_eq_true rfl⟩) hK hA hw (k_X7_setRange l D ad cs H.size (F_X7_setRange M i x ((i_mx (M (3 * i + 1) x) (M (3 * i + 1) y))) ((i_mn (M (3 * i + 2) x) (M (3 * i + 2) y)))) J i y ((i_mx (M (3 * i + 1) x) (M (3 * i + 1) y))) ((i_mn (M (3 * i + 2) x) (M (3 * i + 2) y))) (by omega) (by omega)) (by omega) (cs_S (by omega)) rfl rfl rfl hl.1 (Nat.le_of_ble_eq_true rfl) ⟨Nat.le_of_ble_eq_true rfl, Nat.le_of_ble_eq_true rfl⟩ dX7_keepEqual_58 (fun M7 J8 H locs h9 hw => ?_)
    cases h9
    exact wr_vret hx hb hr hK hw (by show (_, _) = (_, _); unfold F_X7_keepEqual; rw [if_pos q1]) hlocks dX7_keepEqual_61
  · skip
    refine lv_aload_n hx hb dX7_keepEqual_39 rfl (lv_at hl 2 rfl) ?_
    refine lv_iconst (v := nI 1) hx hb dX7_keepEqual_40 (by decide) ?_
    refine wr_pi hx hb hown hK hts iX7 tyX7_ok nmX7 (ci := 6) rfl 0 (by decide) f9 rfl rfl hw (3 * i) (by omega) (cs_S (by omega)) rfl (by decide) (by decide) dX7_keepEqual_41 (fun H locs hw => ?_)
    exact wr_vret hx hb hr hK hw (by show (_, _) = (_, _); unfold F_X7_keepEqual; rw [if_neg q1]) hlocks dX7_keepEqual_44
def F_X7_assign (M : wM) (i : Nat) (k : Int32) (x : Nat) (y : Nat) (z : Nat) : wM := (wU (wU M (3 * i + 1) x ((i_mn ((i_mn (E_X1_outcome M k (M (3 * i + 1) y) (M (3 * i + 1) z)) (E_X1_outcome M k (M (3 * i + 1) y) (M (3 * i + 2) z)))) ((i_mn (E_X1_outcome M k (M (3 * i + 2) y) (M (3 * i + 1) z)) (E_X1_outcome M k (M (3 * i + 2) y) (M (3 * i + 2) z))))))) (3 * i + 2) x ((i_mx ((i_mx (E_X1_outcome M k (M (3 * i + 1) y) (M (3 * i + 1) z)) (E_X1_outcome M k (M (3 * i + 1) y) (M (3 * i + 2) z)))) ((i_mx (E_X1_outcome M k (M (3 * i + 2) y) (M (3 * i + 1) z)) (E_X1_outcome M k (M (3 * i + 2) y) (M (3 * i + 2) z)))))))
set_option maxHeartbeats 4000000 in
set_option maxRecDepth 100000 in
theorem k_X7_assign (l : Launch) (D : va_G) (ad : Nat → Nat) (cs : Nat → ClassId) (sz : Nat) (M : wM) (J : wJ) (i : Nat) (k : Int32) (x : Nat) (y : Nat) (z : Nat) (hi : i < 67) (hx6 : x < 6) (hy6 : y < 6) (hz6 : z < 6) : wCv l yX7_assign wsX7_assign { frames := 2, cells := 0, slots := 0, locals := 55 } D 340 cSh ad cs [.ref (ad (3 * i)), .int k, .int (nI x), .int (nI y), .int (nI z)] sz M J (fun u_ => u_ = (F_X7_assign M i k x y z, J)) := by
  refine wC_v (cc := cX7_assign) (maxL := 9) (ret := none) (by decide) rfl (Nat.le_of_ble_eq_true rfl) ?_
  intro p e s m below meth c ls A hx hb hr hml hown hts hlocks hK hA hw hl hAe
  clear hAe
  have hl : lv_has ls 9 [(0, .ref (ad (3 * i))), (1, .int k), (2, .int (nI x)), (3, .int (nI y)), (4, .int (nI z))] := hl
  have f15 : (Cond.fieldLink RX7 15 "RangePropagator$State" "low" "[I").before _ s = true := hts _ (by decide +kernel)
  have iX7 : ∀ w ∈ wsX70, w ∈ wsX7_assign := by decide +kernel
  have f19 : (Cond.fieldLink RX7 19 "RangePropagator$State" "high" "[I").before _ s = true := hts _ (by decide +kernel)
  have m32 : (Cond.methodLink RX7 32 Lib.Math.min.name).before _ s = true := hts _ (by decide +kernel)
  have t32 : (Cond.static Lib.Math.min.name).before _ s = true := hts _ (by decide +kernel)
  have iMath : (Cond.initialized "java/lang/Math").before _ s = true := hts _ (by decide +kernel)
  have c32 : (Cond.code Lib.Math.min.name Lib.Math.min.code 2 (some .int)).before _ s = true := hts _ (by decide +kernel)
  have m38 : (Cond.methodLink RX7 38 Lib.Math.max.name).before _ s = true := hts _ (by decide +kernel)
  have t38 : (Cond.static Lib.Math.max.name).before _ s = true := hts _ (by decide +kernel)
  have c38 : (Cond.code Lib.Math.max.name Lib.Math.max.code 2 (some .int)).before _ s = true := hts _ (by decide +kernel)
  refine lv_iload_n hx hb dX7_assign_0 rfl (lv_at hl 1 rfl) ?_
  refine lv_aload_n hx hb dX7_assign_1 rfl (lv_at hl 0 rfl) ?_
  refine wr_gr hx hb hown hK hts iX7 (ci := 6) rfl 1 (by decide) f15 rfl hw (3 * i) (by omega) (3 * i + 1) (cs_S (by omega)) rfl dX7_assign_2 ?_
  refine lv_iload_n hx hb dX7_assign_5 rfl (lv_at hl 3 rfl) ?_
  refine wr_ildN hx hb hK hw (3 * i + 1) (by omega) (cs_SL (by omega)) (by decide) y rfl (by omega) dX7_assign_6 ?_
  refine lv_aload_n hx hb dX7_assign_7 rfl (lv_at hl 0 rfl) ?_
  refine wr_gr hx hb hown hK hts iX7 (ci := 6) rfl 1 (by decide) f15 rfl hw (3 * i) (by omega) (3 * i + 1) (cs_S (by omega)) rfl dX7_assign_8 ?_
  refine lv_iload hx hb dX7_assign_11 (lv_at hl 4 rfl) ?_
  refine wr_ildN hx hb hK hw (3 * i + 1) (by omega) (cs_SL (by omega)) (by decide) z rfl (by omega) dX7_assign_13 ?_
  refine wr_cSi (As := [.int k, .int (M (3 * i + 1) y), .int (M (3 * i + 1) z)]) (rest := []) ⟨hx, hb, hml, hown, hts⟩ (va_cwS 3 hts gX7_assign_X1_outcome rfl rfl rfl (by decide +kernel) ⟨Nat.le_of_ble_eq_true rfl, Nat.le_of_ble_eq_true rfl⟩) hK hA hw (k_X1_outcome l D ad cs s.heap.size M J k (M (3 * i + 1) y) (M (3 * i + 1) z) ) rfl rfl hl.1 (Nat.le_of_ble_eq_true rfl) ⟨Nat.le_of_ble_eq_true rfl, Nat.le_of_ble_eq_true rfl⟩ dX7_assign_14 (fun r1 M2 J3 H locs h4 hw => ?_)
  obtain ⟨h4, rfl⟩ := h4
  cases h4
  refine lv_istore (lv' := [(5, .int (E_X1_outcome M k (M (3 * i + 1) y) (M (3 * i + 1) z))), (0, .ref (ad (3 * i))), (1, .int k), (2, .int (nI x)), (3, .int (nI y)), (4, .int (nI z))]) hx hb dX7_assign_17 hl (by decide) rfl (fun ls hl => ?_)
  refine lv_iload_n hx hb dX7_assign_19 rfl (lv_at hl 2 rfl) ?_
  refine lv_aload_n hx hb dX7_assign_20 rfl (lv_at hl 1 rfl) ?_
  refine wr_gr hx hb hown hK hts iX7 (ci := 6) rfl 1 (by decide) f15 rfl hw (3 * i) (by omega) (3 * i + 1) (cs_S (by omega)) rfl dX7_assign_21 ?_
  refine lv_iload_n hx hb dX7_assign_24 rfl (lv_at hl 4 rfl) ?_
  refine wr_ildN hx hb hK hw (3 * i + 1) (by omega) (cs_SL (by omega)) (by decide) y rfl (by omega) dX7_assign_25 ?_
  refine lv_aload_n hx hb dX7_assign_26 rfl (lv_at hl 1 rfl) ?_
  refine wr_gr hx hb hown hK hts iX7 (ci := 6) rfl 2 (by decide) f19 rfl hw (3 * i) (by omega) (3 * i + 2) (cs_S (by omega)) rfl dX7_assign_27 ?_
  refine lv_iload hx hb dX7_assign_30 (lv_at hl 5 rfl) ?_
  refine wr_ildN hx hb hK hw (3 * i + 2) (by omega) (cs_SH (by omega)) (by decide) z rfl (by omega) dX7_assign_32 ?_
  refine wr_cSi (As := [.int k, .int (M (3 * i + 1) y), .int (M (3 * i + 2) z)]) (rest := []) ⟨hx, hb, hml, hown, hts⟩ (va_cwS 3 hts gX7_assign_X1_outcome rfl rfl rfl (by decide +kernel) ⟨Nat.le_of_ble_eq_true rfl, Nat.le_of_ble_eq_true rfl⟩) hK hA hw (k_X1_outcome l D ad cs H.size M J k (M (3 * i + 1) y) (M (3 * i + 2) z) ) rfl rfl hl.1 (Nat.le_of_ble_eq_true rfl) ⟨Nat.le_of_ble_eq_true rfl, Nat.le_of_ble_eq_true rfl⟩ dX7_assign_33 (fun r5 M6 J7 H locs h8 hw => ?_)
  obtain ⟨h8, rfl⟩ := h8
  cases h8
  refine lv_istore (lv' := [(6, .int (E_X1_outcome M k (M (3 * i + 1) y) (M (3 * i + 2) z))), (5, .int (E_X1_outcome M k (M (3 * i + 1) y) (M (3 * i + 1) z))), (0, .ref (ad (3 * i))), (1, .int k), (2, .int (nI x)), (3, .int (nI y)), (4, .int (nI z))]) hx hb dX7_assign_36 hl (by decide) rfl (fun ls hl => ?_)
  refine lv_iload_n hx hb dX7_assign_38 rfl (lv_at hl 3 rfl) ?_
  refine lv_aload_n hx hb dX7_assign_39 rfl (lv_at hl 2 rfl) ?_
  refine wr_gr hx hb hown hK hts iX7 (ci := 6) rfl 2 (by decide) f19 rfl hw (3 * i) (by omega) (3 * i + 2) (cs_S (by omega)) rfl dX7_assign_40 ?_
  refine lv_iload_n hx hb dX7_assign_43 rfl (lv_at hl 5 rfl) ?_
  refine wr_ildN hx hb hK hw (3 * i + 2) (by omega) (cs_SH (by omega)) (by decide) y rfl (by omega) dX7_assign_44 ?_
  refine lv_aload_n hx hb dX7_assign_45 rfl (lv_at hl 2 rfl) ?_
  refine wr_gr hx hb hown hK hts iX7 (ci := 6) rfl 1 (by decide) f15 rfl hw (3 * i) (by omega) (3 * i + 1) (cs_S (by omega)) rfl dX7_assign_46 ?_
  refine lv_iload hx hb dX7_assign_49 (lv_at hl 6 rfl) ?_
  refine wr_ildN hx hb hK hw (3 * i + 1) (by omega) (cs_SL (by omega)) (by decide) z rfl (by omega) dX7_assign_51 ?_
  refine wr_cSi (As := [.int k, .int (M (3 * i + 2) y), .int (M (3 * i + 1) z)]) (rest := []) ⟨hx, hb, hml, hown, hts⟩ (va_cwS 3 hts gX7_assign_X1_outcome rfl rfl rfl (by decide +kernel) ⟨Nat.le_of_ble_eq_true rfl, Nat.le_of_ble_eq_true rfl⟩) hK hA hw (k_X1_outcome l D ad cs H.size M J k (M (3 * i + 2) y) (M (3 * i + 1) z) ) rfl rfl hl.1 (Nat.le_of_ble_eq_true rfl) ⟨Nat.le_of_ble_eq_true rfl, Nat.le_of_ble_eq_true rfl⟩ dX7_assign_52 (fun r9 M10 J11 H locs h12 hw => ?_)
  obtain ⟨h12, rfl⟩ := h12
  cases h12
  refine lv_istore (lv' := [(7, .int (E_X1_outcome M k (M (3 * i + 2) y) (M (3 * i + 1) z))), (6, .int (E_X1_outcome M k (M (3 * i + 1) y) (M (3 * i + 2) z))), (5, .int (E_X1_outcome M k (M (3 * i + 1) y) (M (3 * i + 1) z))), (0, .ref (ad (3 * i))), (1, .int k), (2, .int (nI x)), (3, .int (nI y)), (4, .int (nI z))]) hx hb dX7_assign_55 hl (by decide) rfl (fun ls hl => ?_)
  refine lv_iload_n hx hb dX7_assign_57 rfl (lv_at hl 4 rfl) ?_
  refine lv_aload_n hx hb dX7_assign_58 rfl (lv_at hl 3 rfl) ?_
  refine wr_gr hx hb hown hK hts iX7 (ci := 6) rfl 2 (by decide) f19 rfl hw (3 * i) (by omega) (3 * i + 2) (cs_S (by omega)) rfl dX7_assign_59 ?_
  refine lv_iload_n hx hb dX7_assign_62 rfl (lv_at hl 6 rfl) ?_
  refine wr_ildN hx hb hK hw (3 * i + 2) (by omega) (cs_SH (by omega)) (by decide) y rfl (by omega) dX7_assign_63 ?_
  refine lv_aload_n hx hb dX7_assign_64 rfl (lv_at hl 3 rfl) ?_
  refine wr_gr hx hb hown hK hts iX7 (ci := 6) rfl 2 (by decide) f19 rfl hw (3 * i) (by omega) (3 * i + 2) (cs_S (by omega)) rfl dX7_assign_65 ?_
  refine lv_iload hx hb dX7_assign_68 (lv_at hl 7 rfl) ?_
  refine wr_ildN hx hb hK hw (3 * i + 2) (by omega) (cs_SH (by omega)) (by decide) z rfl (by omega) dX7_assign_70 ?_
  refine wr_cSi (As := [.int k, .int (M (3 * i + 2) y), .int (M (3 * i + 2) z)]) (rest := []) ⟨hx, hb, hml, hown, hts⟩ (va_cwS 3 hts gX7_assign_X1_outcome rfl rfl rfl (by decide +kernel) ⟨Nat.le_of_ble_eq_true rfl, Nat.le_of_ble_eq_true rfl⟩) hK hA hw (k_X1_outcome l D ad cs H.size M J k (M (3 * i + 2) y) (M (3 * i + 2) z) ) rfl rfl hl.1 (Nat.le_of_ble_eq_true rfl) ⟨Nat.le_of_ble_eq_true rfl, Nat.le_of_ble_eq_true rfl⟩ dX7_assign_71 (fun r13 M14 J15 H locs h16 hw => ?_)
  obtain ⟨h16, rfl⟩ := h16
  cases h16
  refine lv_istore (lv' := [(8, .int (E_X1_outcome M k (M (3 * i + 2) y) (M (3 * i + 2) z))), (7, .int (E_X1_outcome M k (M (3 * i + 2) y) (M (3 * i + 1) z))), (6, .int (E_X1_outcome M k (M (3 * i + 1) y) (M (3 * i + 2) z))), (5, .int (E_X1_outcome M k (M (3 * i + 1) y) (M (3 * i + 1) z))), (0, .ref (ad (3 * i))), (1, .int k), (2, .int (nI x)), (3, .int (nI y)), (4, .int (nI z))]) hx hb dX7_assign_74 hl (by decide) rfl (fun ls hl => ?_)
  refine lv_aload_n hx hb dX7_assign_76 rfl (lv_at hl 4 rfl) ?_
  refine wr_gr hx hb hown hK hts iX7 (ci := 6) rfl 1 (by decide) f15 rfl hw (3 * i) (by omega) (3 * i + 1) (cs_S (by omega)) rfl dX7_assign_77 ?_
  refine lv_iload_n hx hb dX7_assign_80 rfl (lv_at hl 6 rfl) ?_
  refine lv_iload hx hb dX7_assign_81 (lv_at hl 3 rfl) ?_
  refine lv_iload hx hb dX7_assign_83 (lv_at hl 2 rfl) ?_
  refine va_mmin hx hb (hml.trans hl.1.symm) hown m32 t32 iMath c32 (Nat.le_of_ble_eq_true rfl) (Nat.le_of_ble_eq_true rfl) (Nat.le_of_ble_eq_true rfl) (Nat.le_of_ble_eq_true rfl) dX7_assign_85 ?_
  refine W.eq (g2 := F0 m 88 ls [.int ((i_mn (E_X1_outcome M k (M (3 * i + 1) y) (M (3 * i + 1) z)) (E_X1_outcome M k (M (3 * i + 1) y) (M (3 * i + 2) z)))), .int (nI x), .ref (ad (3 * i + 1))]) rfl ?_
  refine lv_iload hx hb dX7_assign_88 (lv_at hl 1 rfl) ?_
  refine lv_iload hx hb dX7_assign_90 (lv_at hl 0 rfl) ?_
  refine va_mmin hx hb (hml.trans hl.1.symm) hown m32 t32 iMath c32 (Nat.le_of_ble_eq_true rfl) (Nat.le_of_ble_eq_true rfl) (Nat.le_of_ble_eq_true rfl) (Nat.le_of_ble_eq_true rfl) dX7_assign_92 ?_
  refine W.eq (g2 := F0 m 95 ls [.int ((i_mn (E_X1_outcome M k (M (3 * i + 2) y) (M (3 * i + 1) z)) (E_X1_outcome M k (M (3 * i + 2) y) (M (3 * i + 2) z)))), .int ((i_mn (E_X1_outcome M k (M (3 * i + 1) y) (M (3 * i + 1) z)) (E_X1_outcome M k (M (3 * i + 1) y) (M (3 * i + 2) z)))), .int (nI x), .ref (ad (3 * i + 1))]) rfl ?_
  refine va_mmin hx hb (hml.trans hl.1.symm) hown m32 t32 iMath c32 (Nat.le_of_ble_eq_true rfl) (Nat.le_of_ble_eq_true rfl) (Nat.le_of_ble_eq_true rfl) (Nat.le_of_ble_eq_true rfl) dX7_assign_95 ?_
  refine W.eq (g2 := F0 m 98 ls [.int ((i_mn ((i_mn (E_X1_outcome M k (M (3 * i + 1) y) (M (3 * i + 1) z)) (E_X1_outcome M k (M (3 * i + 1) y) (M (3 * i + 2) z)))) ((i_mn (E_X1_outcome M k (M (3 * i + 2) y) (M (3 * i + 1) z)) (E_X1_outcome M k (M (3 * i + 2) y) (M (3 * i + 2) z)))))), .int (nI x), .ref (ad (3 * i + 1))]) rfl ?_
  refine wr_istN hx hb hK hw (3 * i + 1) (by omega) (cs_SL (by omega)) (by decide) x rfl (by omega) dX7_assign_98 (fun H locs hw => ?_)
  refine lv_aload_n hx hb dX7_assign_99 rfl (lv_at hl 4 rfl) ?_
  refine wr_gr hx hb hown hK hts iX7 (ci := 6) rfl 2 (by decide) f19 rfl hw (3 * i) (by omega) (3 * i + 2) (cs_S (by omega)) rfl dX7_assign_100 ?_
  refine lv_iload_n hx hb dX7_assign_103 rfl (lv_at hl 6 rfl) ?_
  refine lv_iload hx hb dX7_assign_104 (lv_at hl 3 rfl) ?_
  refine lv_iload hx hb dX7_assign_106 (lv_at hl 2 rfl) ?_
  refine va_mmax hx hb (hml.trans hl.1.symm) hown m38 t38 iMath c38 (Nat.le_of_ble_eq_true rfl) (Nat.le_of_ble_eq_true rfl) (Nat.le_of_ble_eq_true rfl) (Nat.le_of_ble_eq_true rfl) dX7_assign_108 ?_
  refine W.eq (g2 := F0 m 111 ls [.int ((i_mx (E_X1_outcome M k (M (3 * i + 1) y) (M (3 * i + 1) z)) (E_X1_outcome M k (M (3 * i + 1) y) (M (3 * i + 2) z)))), .int (nI x), .ref (ad (3 * i + 2))]) rfl ?_
  refine lv_iload hx hb dX7_assign_111 (lv_at hl 1 rfl) ?_
  refine lv_iload hx hb dX7_assign_113 (lv_at hl 0 rfl) ?_
  refine va_mmax hx hb (hml.trans hl.1.symm) hown m38 t38 iMath c38 (Nat.le_of_ble_eq_true rfl) (Nat.le_of_ble_eq_true rfl) (Nat.le_of_ble_eq_true rfl) (Nat.le_of_ble_eq_true rfl) dX7_assign_115 ?_
  refine W.eq (g2 := F0 m 118 ls [.int ((i_mx (E_X1_outcome M k (M (3 * i + 2) y) (M (3 * i + 1) z)) (E_X1_outcome M k (M (3 * i + 2) y) (M (3 * i + 2) z)))), .int ((i_mx (E_X1_outcome M k (M (3 * i + 1) y) (M (3 * i + 1) z)) (E_X1_outcome M k (M (3 * i + 1) y) (M (3 * i + 2) z)))), .int (nI x), .ref (ad (3 * i + 2))]) rfl ?_
  refine va_mmax hx hb (hml.trans hl.1.symm) hown m38 t38 iMath c38 (Nat.le_of_ble_eq_true rfl) (Nat.le_of_ble_eq_true rfl) (Nat.le_of_ble_eq_true rfl) (Nat.le_of_ble_eq_true rfl) dX7_assign_118 ?_
  refine W.eq (g2 := F0 m 121 ls [.int ((i_mx ((i_mx (E_X1_outcome M k (M (3 * i + 1) y) (M (3 * i + 1) z)) (E_X1_outcome M k (M (3 * i + 1) y) (M (3 * i + 2) z)))) ((i_mx (E_X1_outcome M k (M (3 * i + 2) y) (M (3 * i + 1) z)) (E_X1_outcome M k (M (3 * i + 2) y) (M (3 * i + 2) z)))))), .int (nI x), .ref (ad (3 * i + 2))]) rfl ?_
  refine wr_istN hx hb hK hw (3 * i + 2) (by omega) (cs_SH (by omega)) (by decide) x rfl (by omega) dX7_assign_121 (fun H locs hw => ?_)
  exact wr_vret hx hb hr hK hw (by show (_, _) = (_, _); unfold F_X7_assign; rfl) hlocks dX7_assign_122
end
section
/-! State: become, keepUnequal, refine: laid by wip/gen/specs2.py -/
def F_X7_become (M : wM) (i : Nat) (j : Nat) : wM := (va_up (va_up (wU M (3 * i) 0 (M (3 * j) 0)) (3 * i + 1) (va_cpy ((wU M (3 * i) 0 (M (3 * j) 0)) (3 * j + 1)) ((wU M (3 * i) 0 (M (3 * j) 0)) (3 * i + 1)) 0 0 6)) (3 * i + 2) (va_cpy ((va_up (wU M (3 * i) 0 (M (3 * j) 0)) (3 * i + 1) (va_cpy ((wU M (3 * i) 0 (M (3 * j) 0)) (3 * j + 1)) ((wU M (3 * i) 0 (M (3 * j) 0)) (3 * i + 1)) 0 0 6)) (3 * j + 2)) ((va_up (wU M (3 * i) 0 (M (3 * j) 0)) (3 * i + 1) (va_cpy ((wU M (3 * i) 0 (M (3 * j) 0)) (3 * j + 1)) ((wU M (3 * i) 0 (M (3 * j) 0)) (3 * i + 1)) 0 0 6)) (3 * i + 2)) 0 0 6))
set_option maxHeartbeats 4000000 in
set_option maxRecDepth 100000 in
theorem k_X7_become (l : Launch) (D : va_G) (ad : Nat → Nat) (cs : Nat → ClassId) (sz : Nat) (M : wM) (J : wJ) (i : Nat) (j : Nat) (hi : i < 67) (hj : j < 67) (hz : bz (M (3 * j) 0)) : wCv l yX7_become wsX7_become { frames := 1, cells := 0, slots := 0, locals := 60 } D 340 cSh ad cs [.ref (ad (3 * i)), .ref (ad (3 * j))] sz M J (fun u_ => u_ = (F_X7_become M i j, J)) := by
  refine wC_v (cc := cX7_become) (maxL := 2) (ret := none) (by decide) rfl (Nat.le_of_ble_eq_true rfl) ?_
  intro p e s m below meth c ls A hx hb hr hml hown hts hlocks hK hA hw hl hAe
  clear hAe
  have hl : lv_has ls 2 [(0, .ref (ad (3 * i))), (1, .ref (ad (3 * j)))] := hl
  have f9 : (Cond.fieldLink RX7 9 "RangePropagator$State" "isNone" "Z").before _ s = true := hts _ (by decide +kernel)
  have iX7 : ∀ w ∈ wsX70, w ∈ wsX7_become := by decide +kernel
  have f15 : (Cond.fieldLink RX7 15 "RangePropagator$State" "low" "[I").before _ s = true := hts _ (by decide +kernel)
  have m22 : (Cond.methodLink RX7 22 arraycopyName).before _ s = true := hts _ (by decide +kernel)
  have cNat : (Cond.native arraycopyName).before _ s = true := hts _ (by decide +kernel)
  have cSta : (Cond.static arraycopyName).before _ s = true := hts _ (by decide +kernel)
  have cIni : (Cond.initialized "java/lang/System").before _ s = true := hts _ (by decide +kernel)
  have f19 : (Cond.fieldLink RX7 19 "RangePropagator$State" "high" "[I").before _ s = true := hts _ (by decide +kernel)
  refine lv_aload_n hx hb dX7_become_0 rfl (lv_at hl 0 rfl) ?_
  refine lv_aload_n hx hb dX7_become_1 rfl (lv_at hl 1 rfl) ?_
  refine wr_gi hx hb hown hK hts iX7 (ci := 6) rfl 0 (by decide) f9 rfl hw (3 * j) (by omega) (cs_S (by omega)) rfl dX7_become_2 ?_
  refine wr_pi hx hb hown hK hts iX7 tyX7_ok nmX7 (ci := 6) rfl 0 (by decide) f9 rfl rfl hw (3 * i) (by omega) (cs_S (by omega)) rfl (bz_n hz) (bz_f hz) dX7_become_5 (fun H locs hw => ?_)
  refine lv_aload_n hx hb dX7_become_8 rfl (lv_at hl 1 rfl) ?_
  refine wr_gr hx hb hown hK hts iX7 (ci := 6) rfl 1 (by decide) f15 rfl hw (3 * j) (by omega) (3 * j + 1) (cs_S (by omega)) rfl dX7_become_9 ?_
  refine lv_iconst (v := nI 0) hx hb dX7_become_12 (by decide) ?_
  refine lv_aload_n hx hb dX7_become_13 rfl (lv_at hl 0 rfl) ?_
  refine wr_gr hx hb hown hK hts iX7 (ci := 6) rfl 1 (by decide) f15 rfl hw (3 * i) (by omega) (3 * i + 1) (cs_S (by omega)) rfl dX7_become_14 ?_
  refine lv_iconst (v := nI 0) hx hb dX7_become_17 (by decide) ?_
  refine lv_bipush (v := nI 6) hx hb dX7_become_18 (by decide) ?_
  refine wr_cpy hx hb (hml.trans hl.1.symm) hown m22 cNat cSta cIni hK hw (3 * j + 1) (3 * i + 1) (by omega) (by omega) (cs_SL (by omega)) (cs_SL (by omega)) 0 0 6 rfl rfl rfl (by decide) (by decide) (by omega) (by omega) (Nat.le_of_ble_eq_true rfl) (Nat.le_of_ble_eq_true rfl) dX7_become_20 (fun H locs hw => ?_)
  refine lv_aload_n hx hb dX7_become_23 rfl (lv_at hl 1 rfl) ?_
  refine wr_gr hx hb hown hK hts iX7 (ci := 6) rfl 2 (by decide) f19 rfl hw (3 * j) (by omega) (3 * j + 2) (cs_S (by omega)) rfl dX7_become_24 ?_
  refine lv_iconst (v := nI 0) hx hb dX7_become_27 (by decide) ?_
  refine lv_aload_n hx hb dX7_become_28 rfl (lv_at hl 0 rfl) ?_
  refine wr_gr hx hb hown hK hts iX7 (ci := 6) rfl 2 (by decide) f19 rfl hw (3 * i) (by omega) (3 * i + 2) (cs_S (by omega)) rfl dX7_become_29 ?_
  refine lv_iconst (v := nI 0) hx hb dX7_become_32 (by decide) ?_
  refine lv_bipush (v := nI 6) hx hb dX7_become_33 (by decide) ?_
  refine wr_cpy hx hb (hml.trans hl.1.symm) hown m22 cNat cSta cIni hK hw (3 * j + 2) (3 * i + 2) (by omega) (by omega) (cs_SH (by omega)) (cs_SH (by omega)) 0 0 6 rfl rfl rfl (by decide) (by decide) (by omega) (by omega) (Nat.le_of_ble_eq_true rfl) (Nat.le_of_ble_eq_true rfl) dX7_become_35 (fun H locs hw => ?_)
  exact wr_vret hx hb hr hK hw (by show (_, _) = (_, _); unfold F_X7_become; rfl) hlocks dX7_become_38
def F_X7_keepUnequal (M : wM) (i : Nat) (x : Nat) (y : Nat) : wM := (if E_X7_isConstant M i x = 0 then (if E_X7_isConstant M i x = 0 then (if E_X7_isConstant M i y = 0 then M else (F_X7_cutOff M i x (M (3 * i + 1) y))) else (F_X7_cutOff M i y (M (3 * i + 1) x))) else (if E_X7_isConstant M i y = 0 then (if E_X7_isConstant M i x = 0 then (if E_X7_isConstant M i y = 0 then M else (F_X7_cutOff M i x (M (3 * i + 1) y))) else (F_X7_cutOff M i y (M (3 * i + 1) x))) else (if M (3 * i + 1) x = M (3 * i + 1) y then (wU M (3 * i) 0 (nI 1)) else (wU M (3 * i) 0 (nI 0)))))
set_option maxHeartbeats 4000000 in
set_option maxRecDepth 100000 in
theorem k_X7_keepUnequal (l : Launch) (D : va_G) (ad : Nat → Nat) (cs : Nat → ClassId) (sz : Nat) (M : wM) (J : wJ) (i : Nat) (x : Nat) (y : Nat) (hi : i < 67) (hx6 : x < 6) (hy6 : y < 6) : wCv l yX7_keepUnequal wsX7_keepUnequal { frames := 1, cells := 0, slots := 0, locals := 22 } D 340 cSh ad cs [.ref (ad (3 * i)), .int (nI x), .int (nI y)] sz M J (fun u_ => u_ = (F_X7_keepUnequal M i x y, J)) := by
  refine wC_v (cc := cX7_keepUnequal) (maxL := 3) (ret := none) (by decide) rfl (Nat.le_of_ble_eq_true rfl) ?_
  intro p e s m below meth c ls A hx hb hr hml hown hts hlocks hK hA hw hl hAe
  clear hAe
  have hl : lv_has ls 3 [(0, .ref (ad (3 * i))), (1, .int (nI x)), (2, .int (nI y))] := hl
  have f15 : (Cond.fieldLink RX7 15 "RangePropagator$State" "low" "[I").before _ s = true := hts _ (by decide +kernel)
  have iX7 : ∀ w ∈ wsX70, w ∈ wsX7_keepUnequal := by decide +kernel
  have f9 : (Cond.fieldLink RX7 9 "RangePropagator$State" "isNone" "Z").before _ s = true := hts _ (by decide +kernel)
  refine lv_aload_n hx hb dX7_keepUnequal_0 rfl (lv_at hl 0 rfl) ?_
  refine lv_iload_n hx hb dX7_keepUnequal_1 rfl (lv_at hl 1 rfl) ?_
  refine wr_cVi (k := 3 * i) (ci := 6) (As := [.int (nI x)]) (rest := []) ⟨hx, hb, hml, hown, hts⟩ (cwV 1 hts gX7_keepUnequal_X7_isConstant rfl rfl rfl (by decide +kernel) ⟨Nat.le_of_ble_eq_true rfl, Nat.le_of_ble_eq_true rfl⟩) hK hA hw (k_X7_isConstant l D ad cs s.heap.size M J i x (by omega) (by omega)) (by omega) (cs_S (by omega)) rfl rfl rfl hl.1 (Nat.le_of_ble_eq_true rfl) ⟨Nat.le_of_ble_eq_true rfl, Nat.le_of_ble_eq_true rfl⟩ dX7_keepUnequal_2 (fun r1 M2 J3 H locs h4 hw => ?_)
  obtain ⟨h4, rfl⟩ := h4
  cases h4
  refine lv_if_eq (tgt := 43) hx hb dX7_keepUnequal_5 (by decide) (fun q5 => ?_) (fun q5 => ?_)
  · skip
    refine lv_aload_n hx hb dX7_keepUnequal_43 rfl (lv_at hl 0 rfl) ?_
    refine lv_iload_n hx hb dX7_keepUnequal_44 rfl (lv_at hl 1 rfl) ?_
    refine wr_cVi (k := 3 * i) (ci := 6) (As := [.int (nI x)]) (rest := []) ⟨hx, hb, hml, hown, hts⟩ (cwV 1 hts gX7_keepUnequal_X7_isConstant rfl rfl rfl (by decide +kernel) ⟨Nat.le_of_ble_eq_true rfl, Nat.le_of_ble_eq_true rfl⟩) hK hA hw (k_X7_isConstant l D ad cs H.size M J i x (by omega) (by omega)) (by omega) (cs_S (by omega)) rfl rfl rfl hl.1 (Nat.le_of_ble_eq_true rfl) ⟨Nat.le_of_ble_eq_true rfl, Nat.le_of_ble_eq_true rfl⟩ dX7_keepUnequal_45 (fun r6 M7 J8 H locs h9 hw => ?_)
    obtain ⟨h9, rfl⟩ := h9
    cases h9
    refine lv_if_eq (tgt := 65) hx hb dX7_keepUnequal_48 (by decide) (fun q10 => ?_) (fun q10 => ?_)
    · skip
      refine lv_aload_n hx hb dX7_keepUnequal_65 rfl (lv_at hl 0 rfl) ?_
      refine lv_iload_n hx hb dX7_keepUnequal_66 rfl (lv_at hl 2 rfl) ?_
      refine wr_cVi (k := 3 * i) (ci := 6) (As := [.int (nI y)]) (rest := []) ⟨hx, hb, hml, hown, hts⟩ (cwV 1 hts gX7_keepUnequal_X7_isConstant rfl rfl rfl (by decide +kernel) ⟨Nat.le_of_ble_eq_true rfl, Nat.le_of_ble_eq_true rfl⟩) hK hA hw (k_X7_isConstant l D ad cs H.size M J i y (by omega) (by omega)) (by omega) (cs_S (by omega)) rfl rfl rfl hl.1 (Nat.le_of_ble_eq_true rfl) ⟨Nat.le_of_ble_eq_true rfl, Nat.le_of_ble_eq_true rfl⟩ dX7_keepUnequal_67 (fun r11 M12 J13 H locs h14 hw => ?_)
      obtain ⟨h14, rfl⟩ := h14
      cases h14
      refine lv_if_eq (tgt := 84) hx hb dX7_keepUnequal_70 (by decide) (fun q15 => ?_) (fun q15 => ?_)
      · skip
        exact wr_vret hx hb hr hK hw (by show (_, _) = (_, _); unfold F_X7_keepUnequal; rw [if_pos q5, if_pos q10, if_pos q15]) hlocks dX7_keepUnequal_84
      · skip
        refine lv_aload_n hx hb dX7_keepUnequal_73 rfl (lv_at hl 0 rfl) ?_
        refine lv_iload_n hx hb dX7_keepUnequal_74 rfl (lv_at hl 1 rfl) ?_
        refine lv_aload_n hx hb dX7_keepUnequal_75 rfl (lv_at hl 0 rfl) ?_
        refine wr_gr hx hb hown hK hts iX7 (ci := 6) rfl 1 (by decide) f15 rfl hw (3 * i) (by omega) (3 * i + 1) (cs_S (by omega)) rfl dX7_keepUnequal_76 ?_
        refine lv_iload_n hx hb dX7_keepUnequal_79 rfl (lv_at hl 2 rfl) ?_
        refine wr_ildN hx hb hK hw (3 * i + 1) (by omega) (cs_SL (by omega)) (by decide) y rfl (by omega) dX7_keepUnequal_80 ?_
        refine wr_cVv (k := 3 * i) (ci := 6) (As := [.int (nI x), .int (M (3 * i + 1) y)]) (rest := []) ⟨hx, hb, hml, hown, hts⟩ (cwV 2 hts gX7_keepUnequal_X7_cutOff rfl rfl rfl (by decide +kernel) ⟨Nat.le_of_ble_eq_true rfl, Nat.le_of_ble_eq_true rfl⟩) hK hA hw (k_X7_cutOff l D ad cs H.size M J i x (M (3 * i + 1) y) (by omega) (by omega)) (by omega) (cs_S (by omega)) rfl rfl rfl hl.1 (Nat.le_of_ble_eq_true rfl) ⟨Nat.le_of_ble_eq_true rfl, Nat.le_of_ble_eq_true rfl⟩ dX7_keepUnequal_81 (fun M17 J18 H locs h19 hw => ?_)
        cases h19
        exact wr_vret hx hb hr hK hw (by show (_, _) = (_, _); unfold F_X7_keepUnequal; rw [if_pos q5, if_pos q10, if_neg q15]) hlocks dX7_keepUnequal_84
    · skip
      refine lv_aload_n hx hb dX7_keepUnequal_51 rfl (lv_at hl 0 rfl) ?_
      refine lv_iload_n hx hb dX7_keepUnequal_52 rfl (lv_at hl 2 rfl) ?_
      refine lv_aload_n hx hb dX7_keepUnequal_53 rfl (lv_at hl 0 rfl) ?_
      refine wr_gr hx hb hown hK hts iX7 (ci := 6) rfl 1 (by decide) f15 rfl hw (3 * i) (by omega) (3 * i + 1) (cs_S (by omega)) rfl dX7_keepUnequal_54 ?_
      refine lv_iload_n hx hb dX7_keepUnequal_57 rfl (lv_at hl 1 rfl) ?_
      refine wr_ildN hx hb hK hw (3 * i + 1) (by omega) (cs_SL (by omega)) (by decide) x rfl (by omega) dX7_keepUnequal_58 ?_
      refine wr_cVv (k := 3 * i) (ci := 6) (As := [.int (nI y), .int (M (3 * i + 1) x)]) (rest := []) ⟨hx, hb, hml, hown, hts⟩ (cwV 2 hts gX7_keepUnequal_X7_cutOff rfl rfl rfl (by decide +kernel) ⟨Nat.le_of_ble_eq_true rfl, Nat.le_of_ble_eq_true rfl⟩) hK hA hw (k_X7_cutOff l D ad cs H.size M J i y (M (3 * i + 1) x) (by omega) (by omega)) (by omega) (cs_S (by omega)) rfl rfl rfl hl.1 (Nat.le_of_ble_eq_true rfl) ⟨Nat.le_of_ble_eq_true rfl, Nat.le_of_ble_eq_true rfl⟩ dX7_keepUnequal_59 (fun M21 J22 H locs h23 hw => ?_)
      cases h23
      refine lv_goto (tgt := 84) hx hb dX7_keepUnequal_62 (by decide) ?_
      exact wr_vret hx hb hr hK hw (by show (_, _) = (_, _); unfold F_X7_keepUnequal; rw [if_pos q5, if_neg q10]) hlocks dX7_keepUnequal_84
  · skip
    refine lv_aload_n hx hb dX7_keepUnequal_8 rfl (lv_at hl 0 rfl) ?_
    refine lv_iload_n hx hb dX7_keepUnequal_9 rfl (lv_at hl 2 rfl) ?_
    refine wr_cVi (k := 3 * i) (ci := 6) (As := [.int (nI y)]) (rest := []) ⟨hx, hb, hml, hown, hts⟩ (cwV 1 hts gX7_keepUnequal_X7_isConstant rfl rfl rfl (by decide +kernel) ⟨Nat.le_of_ble_eq_true rfl, Nat.le_of_ble_eq_true rfl⟩) hK hA hw (k_X7_isConstant l D ad cs H.size M J i y (by omega) (by omega)) (by omega) (cs_S (by omega)) rfl rfl rfl hl.1 (Nat.le_of_ble_eq_true rfl) ⟨Nat.le_of_ble_eq_true rfl, Nat.le_of_ble_eq_true rfl⟩ dX7_keepUnequal_10 (fun r24 M25 J26 H locs h27 hw => ?_)
    obtain ⟨h27, rfl⟩ := h27
    cases h27
    refine lv_if_eq (tgt := 43) hx hb dX7_keepUnequal_13 (by decide) (fun q28 => ?_) (fun q28 => ?_)
    · skip
      refine lv_aload_n hx hb dX7_keepUnequal_43 rfl (lv_at hl 0 rfl) ?_
      refine lv_iload_n hx hb dX7_keepUnequal_44 rfl (lv_at hl 1 rfl) ?_
      refine wr_cVi (k := 3 * i) (ci := 6) (As := [.int (nI x)]) (rest := []) ⟨hx, hb, hml, hown, hts⟩ (cwV 1 hts gX7_keepUnequal_X7_isConstant rfl rfl rfl (by decide +kernel) ⟨Nat.le_of_ble_eq_true rfl, Nat.le_of_ble_eq_true rfl⟩) hK hA hw (k_X7_isConstant l D ad cs H.size M J i x (by omega) (by omega)) (by omega) (cs_S (by omega)) rfl rfl rfl hl.1 (Nat.le_of_ble_eq_true rfl) ⟨Nat.le_of_ble_eq_true rfl, Nat.le_of_ble_eq_true rfl⟩ dX7_keepUnequal_45 (fun r29 M30 J31 H locs h32 hw => ?_)
      obtain ⟨h32, rfl⟩ := h32
      cases h32
      refine lv_if_eq (tgt := 65) hx hb dX7_keepUnequal_48 (by decide) (fun q33 => ?_) (fun q33 => ?_)
      · skip
        refine lv_aload_n hx hb dX7_keepUnequal_65 rfl (lv_at hl 0 rfl) ?_
        refine lv_iload_n hx hb dX7_keepUnequal_66 rfl (lv_at hl 2 rfl) ?_
        refine wr_cVi (k := 3 * i) (ci := 6) (As := [.int (nI y)]) (rest := []) ⟨hx, hb, hml, hown, hts⟩ (cwV 1 hts gX7_keepUnequal_X7_isConstant rfl rfl rfl (by decide +kernel) ⟨Nat.le_of_ble_eq_true rfl, Nat.le_of_ble_eq_true rfl⟩) hK hA hw (k_X7_isConstant l D ad cs H.size M J i y (by omega) (by omega)) (by omega) (cs_S (by omega)) rfl rfl rfl hl.1 (Nat.le_of_ble_eq_true rfl) ⟨Nat.le_of_ble_eq_true rfl, Nat.le_of_ble_eq_true rfl⟩ dX7_keepUnequal_67 (fun r34 M35 J36 H locs h37 hw => ?_)
        obtain ⟨h37, rfl⟩ := h37
        cases h37
        refine lv_if_eq (tgt := 84) hx hb dX7_keepUnequal_70 (by decide) (fun q38 => ?_) (fun q38 => ?_)
        · skip
          exact wr_vret hx hb hr hK hw (by show (_, _) = (_, _); unfold F_X7_keepUnequal; rw [if_neg q5, if_pos q28, if_pos q33, if_pos q38]) hlocks dX7_keepUnequal_84
        · skip
          refine lv_aload_n hx hb dX7_keepUnequal_73 rfl (lv_at hl 0 rfl) ?_
          refine lv_iload_n hx hb dX7_keepUnequal_74 rfl (lv_at hl 1 rfl) ?_
          refine lv_aload_n hx hb dX7_keepUnequal_75 rfl (lv_at hl 0 rfl) ?_
          refine wr_gr hx hb hown hK hts iX7 (ci := 6) rfl 1 (by decide) f15 rfl hw (3 * i) (by omega) (3 * i + 1) (cs_S (by omega)) rfl dX7_keepUnequal_76 ?_
          refine lv_iload_n hx hb dX7_keepUnequal_79 rfl (lv_at hl 2 rfl) ?_
          refine wr_ildN hx hb hK hw (3 * i + 1) (by omega) (cs_SL (by omega)) (by decide) y rfl (by omega) dX7_keepUnequal_80 ?_
          refine wr_cVv (k := 3 * i) (ci := 6) (As := [.int (nI x), .int (M (3 * i + 1) y)]) (rest := []) ⟨hx, hb, hml, hown, hts⟩ (cwV 2 hts gX7_keepUnequal_X7_cutOff rfl rfl rfl (by decide +kernel) ⟨Nat.le_of_ble_eq_true rfl, Nat.le_of_ble_eq_true rfl⟩) hK hA hw (k_X7_cutOff l D ad cs H.size M J i x (M (3 * i + 1) y) (by omega) (by omega)) (by omega) (cs_S (by omega)) rfl rfl rfl hl.1 (Nat.le_of_ble_eq_true rfl) ⟨Nat.le_of_ble_eq_true rfl, Nat.le_of_ble_eq_true rfl⟩ dX7_keepUnequal_81 (fun M40 J41 H locs h42 hw => ?_)
          cases h42
          exact wr_vret hx hb hr hK hw (by show (_, _) = (_, _); unfold F_X7_keepUnequal; rw [if_neg q5, if_pos q28, if_pos q33, if_neg q38]) hlocks dX7_keepUnequal_84
      · skip
        refine lv_aload_n hx hb dX7_keepUnequal_51 rfl (lv_at hl 0 rfl) ?_
        refine lv_iload_n hx hb dX7_keepUnequal_52 rfl (lv_at hl 2 rfl) ?_
        refine lv_aload_n hx hb dX7_keepUnequal_53 rfl (lv_at hl 0 rfl) ?_
        refine wr_gr hx hb hown hK hts iX7 (ci := 6) rfl 1 (by decide) f15 rfl hw (3 * i) (by omega) (3 * i + 1) (cs_S (by omega)) rfl dX7_keepUnequal_54 ?_
        refine lv_iload_n hx hb dX7_keepUnequal_57 rfl (lv_at hl 1 rfl) ?_
        refine wr_ildN hx hb hK hw (3 * i + 1) (by omega) (cs_SL (by omega)) (by decide) x rfl (by omega) dX7_keepUnequal_58 ?_
        refine wr_cVv (k := 3 * i) (ci := 6) (As := [.int (nI y), .int (M (3 * i + 1) x)]) (rest := []) ⟨hx, hb, hml, hown, hts⟩ (cwV 2 hts gX7_keepUnequal_X7_cutOff rfl rfl rfl (by decide +kernel) ⟨Nat.le_of_ble_eq_true rfl, Nat.le_of_ble_eq_true rfl⟩) hK hA hw (k_X7_cutOff l D ad cs H.size M J i y (M (3 * i + 1) x) (by omega) (by omega)) (by omega) (cs_S (by omega)) rfl rfl rfl hl.1 (Nat.le_of_ble_eq_true rfl) ⟨Nat.le_of_ble_eq_true rfl, Nat.le_of_ble_eq_true rfl⟩ dX7_keepUnequal_59 (fun M44 J45 H locs h46 hw => ?_)
        cases h46
        refine lv_goto (tgt := 84) hx hb dX7_keepUnequal_62 (by decide) ?_
        exact wr_vret hx hb hr hK hw (by show (_, _) = (_, _); unfold F_X7_keepUnequal; rw [if_neg q5, if_pos q28, if_neg q33]) hlocks dX7_keepUnequal_84
    · skip
      refine lv_aload_n hx hb dX7_keepUnequal_16 rfl (lv_at hl 0 rfl) ?_
      refine lv_aload_n hx hb dX7_keepUnequal_17 rfl (lv_at hl 0 rfl) ?_
      refine wr_gr hx hb hown hK hts iX7 (ci := 6) rfl 1 (by decide) f15 rfl hw (3 * i) (by omega) (3 * i + 1) (cs_S (by omega)) rfl dX7_keepUnequal_18 ?_
      refine lv_iload_n hx hb dX7_keepUnequal_21 rfl (lv_at hl 1 rfl) ?_
      refine wr_ildN hx hb hK hw (3 * i + 1) (by omega) (cs_SL (by omega)) (by decide) x rfl (by omega) dX7_keepUnequal_22 ?_
      refine lv_aload_n hx hb dX7_keepUnequal_23 rfl (lv_at hl 0 rfl) ?_
      refine wr_gr hx hb hown hK hts iX7 (ci := 6) rfl 1 (by decide) f15 rfl hw (3 * i) (by omega) (3 * i + 1) (cs_S (by omega)) rfl dX7_keepUnequal_24 ?_
      refine lv_iload_n hx hb dX7_keepUnequal_27 rfl (lv_at hl 2 rfl) ?_
      refine wr_ildN hx hb hK hw (3 * i + 1) (by omega) (cs_SL (by omega)) (by decide) y rfl (by omega) dX7_keepUnequal_28 ?_
      refine lv_icmp_ne (tgt := 36) hx hb dX7_keepUnequal_29 (by decide) (fun q47 => ?_) (fun q47 => ?_)
      · skip
        refine lv_iconst (v := nI 0) hx hb dX7_keepUnequal_36 (by decide) ?_
        refine wr_pi hx hb hown hK hts iX7 tyX7_ok nmX7 (ci := 6) rfl 0 (by decide) f9 rfl rfl hw (3 * i) (by omega) (cs_S (by omega)) rfl (by decide) (by decide) dX7_keepUnequal_37 (fun H locs hw => ?_)
        refine lv_goto (tgt := 84) hx hb dX7_keepUnequal_40 (by decide) ?_
        exact wr_vret hx hb hr hK hw (by show (_, _) = (_, _); unfold F_X7_keepUnequal; rw [if_neg q5, if_neg q28, if_neg q47]) hlocks dX7_keepUnequal_84
      · skip
        refine lv_iconst (v := nI 1) hx hb dX7_keepUnequal_32 (by decide) ?_
        refine lv_goto (tgt := 37) hx hb dX7_keepUnequal_33 (by decide) ?_
        refine wr_pi hx hb hown hK hts iX7 tyX7_ok nmX7 (ci := 6) rfl 0 (by decide) f9 rfl rfl hw (3 * i) (by omega) (cs_S (by omega)) rfl (by decide) (by decide) dX7_keepUnequal_37 (fun H locs hw => ?_)
        refine lv_goto (tgt := 84) hx hb dX7_keepUnequal_40 (by decide) ?_
        exact wr_vret hx hb hr hK hw (by show (_, _) = (_, _); unfold F_X7_keepUnequal; rw [if_neg q5, if_neg q28, if_pos q47]) hlocks dX7_keepUnequal_84
def F_X7_refine (M : wM) (i : Nat) (x : Nat) (r : Int32) (y : Nat) : wM := (if nI x = nI y then (if E_X1_isTrue M (nI 0) r (nI 0) = 0 then (wU M (3 * i) 0 (nI 1)) else (wU M (3 * i) 0 (nI 0))) else (if r = nI 0 then (F_X7_keepOrdered M i x y (nI 1)) else (if r = nI 1 then (F_X7_keepOrdered M i x y (nI 0)) else (if r = nI 2 then (F_X7_keepEqual M i x y) else (F_X7_keepUnequal M i x y)))))
set_option maxHeartbeats 4000000 in
set_option maxRecDepth 100000 in
theorem k_X7_refine (l : Launch) (D : va_G) (ad : Nat → Nat) (cs : Nat → ClassId) (sz : Nat) (M : wM) (J : wJ) (i : Nat) (x : Nat) (r : Int32) (y : Nat) (hi : i < 67) (hx6 : x < 6) (hy6 : y < 6) : wCv l yX7_refine wsX7_refine { frames := 2, cells := 0, slots := 0, locals := 55 } D 340 cSh ad cs [.ref (ad (3 * i)), .int (nI x), .int r, .int (nI y)] sz M J (fun u_ => u_ = (F_X7_refine M i x r y, J)) := by
  refine wC_v (cc := cX7_refine) (maxL := 4) (ret := none) (by decide) rfl (Nat.le_of_ble_eq_true rfl) ?_
  intro p e s m below meth c ls A hx hb hr hml hown hts hlocks hK hA hw hl hAe
  clear hAe
  have hl : lv_has ls 4 [(0, .ref (ad (3 * i))), (1, .int (nI x)), (2, .int r), (3, .int (nI y))] := hl
  have f9 : (Cond.fieldLink RX7 9 "RangePropagator$State" "isNone" "Z").before _ s = true := hts _ (by decide +kernel)
  have iX7 : ∀ w ∈ wsX70, w ∈ wsX7_refine := by decide +kernel
  refine lv_iload_n hx hb dX7_refine_0 rfl (lv_at hl 1 rfl) ?_
  refine lv_iload_n hx hb dX7_refine_1 rfl (lv_at hl 3 rfl) ?_
  refine lv_icmp_ne (tgt := 24) hx hb dX7_refine_2 (by decide) (fun q1 => ?_) (fun q1 => ?_)
  · have q1n : ¬ x = y := fun z => q1 ((nI_eq (by omega) (by omega)).mpr z)
    refine lv_iload_n hx hb dX7_refine_24 rfl (lv_at hl 2 rfl) ?_
    by_cases q2 : r = nI 0
    · refine lv_tableIn (off := 27) (tgt := 52) hx hb dX7_refine_25 (by rw [q2]; decide) (by rw [q2]; decide) (by rw [q2]; decide) (by decide) ?_
      refine lv_aload_n hx hb dX7_refine_52 rfl (lv_at hl 0 rfl) ?_
      refine lv_iload_n hx hb dX7_refine_53 rfl (lv_at hl 1 rfl) ?_
      refine lv_iload_n hx hb dX7_refine_54 rfl (lv_at hl 3 rfl) ?_
      refine lv_iconst (v := nI 1) hx hb dX7_refine_55 (by decide) ?_
      refine wr_cVv (k := 3 * i) (ci := 6) (As := [.int (nI x), .int (nI y), .int (nI 1)]) (rest := []) ⟨hx, hb, hml, hown, hts⟩ (cwV 3 hts gX7_refine_X7_keepOrdered rfl rfl rfl (by decide +kernel) ⟨Nat.le_of_ble_eq_true rfl, Nat.le_of_ble_eq_true rfl⟩) hK hA hw (k_X7_keepOrdered l D ad cs s.heap.size M J i x y (nI 1) (by omega) (by omega) (by omega)) (by omega) (cs_S (by omega)) rfl rfl rfl hl.1 (Nat.le_of_ble_eq_true rfl) ⟨Nat.le_of_ble_eq_true rfl, Nat.le_of_ble_eq_true rfl⟩ dX7_refine_56 (fun M4 J5 H locs h6 hw => ?_)
      cases h6
      refine lv_goto (tgt := 87) hx hb dX7_refine_59 (by decide) ?_
      exact wr_vret hx hb hr hK hw (by show (_, _) = (_, _); unfold F_X7_refine; rw [if_neg q1, if_pos q2]) hlocks dX7_refine_87
    by_cases q7 : r = nI 1
    · refine lv_tableIn (off := 37) (tgt := 62) hx hb dX7_refine_25 (by rw [q7]; decide) (by rw [q7]; decide) (by rw [q7]; decide) (by decide) ?_
      refine lv_aload_n hx hb dX7_refine_62 rfl (lv_at hl 0 rfl) ?_
      refine lv_iload_n hx hb dX7_refine_63 rfl (lv_at hl 1 rfl) ?_
      refine lv_iload_n hx hb dX7_refine_64 rfl (lv_at hl 3 rfl) ?_
      refine lv_iconst (v := nI 0) hx hb dX7_refine_65 (by decide) ?_
      refine wr_cVv (k := 3 * i) (ci := 6) (As := [.int (nI x), .int (nI y), .int (nI 0)]) (rest := []) ⟨hx, hb, hml, hown, hts⟩ (cwV 3 hts gX7_refine_X7_keepOrdered rfl rfl rfl (by decide +kernel) ⟨Nat.le_of_ble_eq_true rfl, Nat.le_of_ble_eq_true rfl⟩) hK hA hw (k_X7_keepOrdered l D ad cs s.heap.size M J i x y (nI 0) (by omega) (by omega) (by omega)) (by omega) (cs_S (by omega)) rfl rfl rfl hl.1 (Nat.le_of_ble_eq_true rfl) ⟨Nat.le_of_ble_eq_true rfl, Nat.le_of_ble_eq_true rfl⟩ dX7_refine_66 (fun M9 J10 H locs h11 hw => ?_)
      cases h11
      refine lv_goto (tgt := 87) hx hb dX7_refine_69 (by decide) ?_
      exact wr_vret hx hb hr hK hw (by show (_, _) = (_, _); unfold F_X7_refine; rw [if_neg q1, if_neg q2, if_pos q7]) hlocks dX7_refine_87
    by_cases q12 : r = nI 2
    · refine lv_tableIn (off := 47) (tgt := 72) hx hb dX7_refine_25 (by rw [q12]; decide) (by rw [q12]; decide) (by rw [q12]; decide) (by decide) ?_
      refine lv_aload_n hx hb dX7_refine_72 rfl (lv_at hl 0 rfl) ?_
      refine lv_iload_n hx hb dX7_refine_73 rfl (lv_at hl 1 rfl) ?_
      refine lv_iload_n hx hb dX7_refine_74 rfl (lv_at hl 3 rfl) ?_
      refine wr_cVv (k := 3 * i) (ci := 6) (As := [.int (nI x), .int (nI y)]) (rest := []) ⟨hx, hb, hml, hown, hts⟩ (cwV 2 hts gX7_refine_X7_keepEqual rfl rfl rfl (by decide +kernel) ⟨Nat.le_of_ble_eq_true rfl, Nat.le_of_ble_eq_true rfl⟩) hK hA hw (k_X7_keepEqual l D ad cs s.heap.size M J i x y (by omega) (by omega) (by omega)) (by omega) (cs_S (by omega)) rfl rfl rfl hl.1 (Nat.le_of_ble_eq_true rfl) ⟨Nat.le_of_ble_eq_true rfl, Nat.le_of_ble_eq_true rfl⟩ dX7_refine_75 (fun M14 J15 H locs h16 hw => ?_)
      cases h16
      refine lv_goto (tgt := 87) hx hb dX7_refine_78 (by decide) ?_
      exact wr_vret hx hb hr hK hw (by show (_, _) = (_, _); unfold F_X7_refine; rw [if_neg q1, if_neg q2, if_neg q7, if_pos q12]) hlocks dX7_refine_87
    refine lv_tableOut (tgt := 81) hx hb dX7_refine_25 (sw_out 0 2 (by decide) (fun k h1 h2 => by rcases (show k = 0 ∨ k = 1 ∨ k = 2 by omega) with rfl | rfl | rfl <;> assumption)) (by decide) ?_
    refine lv_aload_n hx hb dX7_refine_81 rfl (lv_at hl 0 rfl) ?_
    refine lv_iload_n hx hb dX7_refine_82 rfl (lv_at hl 1 rfl) ?_
    refine lv_iload_n hx hb dX7_refine_83 rfl (lv_at hl 3 rfl) ?_
    refine wr_cVv (k := 3 * i) (ci := 6) (As := [.int (nI x), .int (nI y)]) (rest := []) ⟨hx, hb, hml, hown, hts⟩ (cwV 2 hts gX7_refine_X7_keepUnequal rfl rfl rfl (by decide +kernel) ⟨Nat.le_of_ble_eq_true rfl, Nat.le_of_ble_eq_true rfl⟩) hK hA hw (k_X7_keepUnequal l D ad cs s.heap.size M J i x y (by omega) (by omega) (by omega)) (by omega) (cs_S (by omega)) rfl rfl rfl hl.1 (Nat.le_of_ble_eq_true rfl) ⟨Nat.le_of_ble_eq_true rfl, Nat.le_of_ble_eq_true rfl⟩ dX7_refine_84 (fun M18 J19 H locs h20 hw => ?_)
    cases h20
    exact wr_vret hx hb hr hK hw (by show (_, _) = (_, _); unfold F_X7_refine; rw [if_neg q1, if_neg q2, if_neg q7, if_neg q12]) hlocks dX7_refine_87
  · have q1n : x = y := (nI_eq (by omega) (by omega)).mp q1
    refine lv_aload_n hx hb dX7_refine_5 rfl (lv_at hl 0 rfl) ?_
    refine lv_iconst (v := nI 0) hx hb dX7_refine_6 (by decide) ?_
    refine lv_iload_n hx hb dX7_refine_7 rfl (lv_at hl 2 rfl) ?_
    refine lv_iconst (v := nI 0) hx hb dX7_refine_8 (by decide) ?_
    refine wr_cSi (As := [.int (nI 0), .int r, .int (nI 0)]) (rest := [.ref (ad (3 * i))]) ⟨hx, hb, hml, hown, hts⟩ (va_cwS 3 hts gX7_refine_X1_isTrue rfl rfl rfl (by decide +kernel) ⟨Nat.le_of_ble_eq_true rfl, Nat.le_of_ble_eq_true rfl⟩) hK hA hw (k_X1_isTrue l D ad cs s.heap.size M J (nI 0) r (nI 0) ) rfl rfl hl.1 (Nat.le_of_ble_eq_true rfl) ⟨Nat.le_of_ble_eq_true rfl, Nat.le_of_ble_eq_true rfl⟩ dX7_refine_9 (fun r21 M22 J23 H locs h24 hw => ?_)
    obtain ⟨h24, rfl⟩ := h24
    cases h24
    refine lv_if_ne (tgt := 19) hx hb dX7_refine_12 (by decide) (fun q25 => ?_) (fun q25 => ?_)
    · skip
      refine lv_iconst (v := nI 0) hx hb dX7_refine_19 (by decide) ?_
      refine wr_pi hx hb hown hK hts iX7 tyX7_ok nmX7 (ci := 6) rfl 0 (by decide) f9 rfl rfl hw (3 * i) (by omega) (cs_S (by omega)) rfl (by decide) (by decide) dX7_refine_20 (fun H locs hw => ?_)
      exact wr_vret hx hb hr hK hw (by show (_, _) = (_, _); unfold F_X7_refine; rw [if_pos q1, if_neg q25]) hlocks dX7_refine_23
    · skip
      refine lv_iconst (v := nI 1) hx hb dX7_refine_15 (by decide) ?_
      refine lv_goto (tgt := 20) hx hb dX7_refine_16 (by decide) ?_
      refine wr_pi hx hb hown hK hts iX7 tyX7_ok nmX7 (ci := 6) rfl 0 (by decide) f9 rfl rfl hw (3 * i) (by omega) (cs_S (by omega)) rfl (by decide) (by decide) dX7_refine_20 (fun H locs hw => ?_)
      exact wr_vret hx hb hr hK hw (by show (_, _) = (_, _); unfold F_X7_refine; rw [if_pos q1, if_pos q25]) hlocks dX7_refine_23
end
section
/-! ===== pure facts of the states' methods ===== -/
theorem upd_at (f : Nat → Int32) (k : Nat) (v : Int32) (j : Nat) : upd f k v j = if j = k then v else f j := rfl
theorem sv_none {M : wM} {i : Nat} (h : ¬ M (3 * i) 0 = 0) : sv M i = none := by unfold sv; rw [if_neg h]
theorem sv_some {M : wM} {i : Nat} (h : M (3 * i) 0 = 0) : sv M i = some (r6 (M (3 * i + 1)), r6 (M (3 * i + 2))) := by unfold sv; rw [if_pos h]
theorem bz_0 : bz 0 := Or.inl nI_0.symm
theorem become_0 {M : wM} {i j : Nat} : F_X7_become M i j (3 * i) = upd (M (3 * i)) 0 (M (3 * j) 0) := by
  unfold F_X7_become
  rw [va_up_ne _ _ (by omega), va_up_ne _ _ (by omega), wU_self]
theorem become_1 {M : wM} {i j : Nat} : F_X7_become M i j (3 * i + 1) = va_cpy (M (3 * j + 1)) (M (3 * i + 1)) 0 0 6 := by
  unfold F_X7_become
  rw [va_up_ne _ _ (by omega), va_up_self, wU_ne (by omega), wU_ne (by omega)]
theorem become_2 {M : wM} {i j : Nat} (h : i ≠ j) : F_X7_become M i j (3 * i + 2) = va_cpy (M (3 * j + 2)) (M (3 * i + 2)) 0 0 6 := by
  unfold F_X7_become
  rw [va_up_self, va_up_ne _ _ (by omega), wU_ne (by omega), va_up_ne _ _ (by omega), wU_ne (by omega)]
theorem become_kp {M : wM} {i j : Nat} : kp M (F_X7_become M i j) (stc i) := fun c hc => by
  unfold stc at hc
  unfold F_X7_become
  rw [va_up_ne _ _ (by omega), va_up_ne _ _ (by omega), wU_ne (by omega)]
theorem become_z {M : wM} {i j : Nat} : F_X7_become M i j (3 * i) 0 = M (3 * j) 0 := by rw [become_0]; simp [upd]
theorem cpy6 {f g : Nat → Int32} {v : Nat} (h : v < 6) : va_cpy f g 0 0 6 v = f v := by
  rw [pk_cpy_in (by omega) (by omega)]; simp
theorem become_sv {M : wM} {i j : Nat} (h : i ≠ j) : sv (F_X7_become M i j) i = sv M j := by
  unfold sv
  rw [become_z, become_1, become_2 h, r6_ext (fun v hv => cpy6 hv), r6_ext (f := va_cpy (M (3 * j + 2)) (M (3 * i + 2)) 0 0 6) (fun v hv => cpy6 hv)]
/-- two rows of a state, changed up to k by a second state's -/
def I2 (f g : Int32 → Int32 → Int32) (M : wM) (i j k : Nat) (M1 : wM) : Prop := kp M M1 (fun c => c = 3 * i + 1 ∨ c = 3 * i + 2) ∧ ∀ v, M1 (3 * i + 1) v = (if v < k then f (M (3 * i + 1) v) (M (3 * j + 1) v) else M (3 * i + 1) v) ∧ M1 (3 * i + 2) v = (if v < k then g (M (3 * i + 2) v) (M (3 * j + 2) v) else M (3 * i + 2) v)
theorem I2_0 {f g : Int32 → Int32 → Int32} {M : wM} {i j : Nat} : I2 f g M i j 0 M := ⟨kp_refl _ _, fun v => ⟨by simp, by simp⟩⟩
theorem I2_step {f g : Int32 → Int32 → Int32} {M M1 : wM} {i j k : Nat} (hij : i ≠ j) (h : I2 f g M i j k M1) : I2 f g M i j (k + 1) (wU (wU M1 (3 * i + 1) k (f (M1 (3 * i + 1) k) (M1 (3 * j + 1) k))) (3 * i + 2) k (g ((wU M1 (3 * i + 1) k (f (M1 (3 * i + 1) k) (M1 (3 * j + 1) k))) (3 * i + 2) k) ((wU M1 (3 * i + 1) k (f (M1 (3 * i + 1) k) (M1 (3 * j + 1) k))) (3 * j + 2) k))) := by
  obtain ⟨hk, hv⟩ := h
  have a1 : M1 (3 * j + 1) = M (3 * j + 1) := hk _ (by omega)
  have a2 : M1 (3 * j + 2) = M (3 * j + 2) := hk _ (by omega)
  refine ⟨fun c hc => ?_, fun v => ?_⟩
  · rw [wU_ne (by omega), wU_ne (by omega)]; exact hk c hc
  · rw [wU_at, wU_at, wU_at, wU_at, wU_at, wU_at, if_neg (show ¬ (3 * i + 1 = 3 * i + 2 ∧ v = k) by omega), if_neg (show ¬ (3 * i + 2 = 3 * i + 1 ∧ v = k) by omega), if_neg (show ¬ (3 * i + 2 = 3 * i + 1 ∧ k = k) by omega), if_neg (show ¬ (3 * j + 2 = 3 * i + 1 ∧ k = k) by omega), a1, a2, (hv v).1, (hv v).2, (hv k).1, (hv k).2, if_neg (Nat.lt_irrefl k), if_neg (Nat.lt_irrefl k)]
    by_cases q : v = k
    · subst q
      simp
    · by_cases q2 : v < k
      · simp [q, q2, show v < k + 1 by omega]
      · simp [q, q2, show ¬ v < k + 1 by omega]
theorem I2_z {f g : Int32 → Int32 → Int32} {M M1 : wM} {i j k : Nat} (h : I2 f g M i j k M1) : M1 (3 * i) = M (3 * i) := h.1 _ (by omega)
theorem I2_kp {f g : Int32 → Int32 → Int32} {M M1 : wM} {i j k : Nat} (h : I2 f g M i j k M1) : kp M M1 (stc i) := kp_mono h.1 (fun c hc => by unfold stc; omega)
theorem I2_sv {f g : Int32 → Int32 → Int32} {M M1 : wM} {i j : Nat} (h : I2 f g M i j 6 M1) (h0 : M (3 * i) 0 = 0) : sv M1 i = some (r6 (fun v => f (r6 (M (3 * i + 1)) v) (r6 (M (3 * j + 1)) v)), r6 (fun v => g (r6 (M (3 * i + 2)) v) (r6 (M (3 * j + 2)) v))) := by
  unfold sv
  rw [I2_z h, if_pos h0, r6_ext (g := fun v => f (r6 (M (3 * i + 1)) v) (r6 (M (3 * j + 1)) v)) (fun v hv => by rw [(h.2 v).1, if_pos hv, r6_lt hv, r6_lt hv]), r6_ext (f := M1 (3 * i + 2)) (g := fun v => g (r6 (M (3 * i + 2)) v) (r6 (M (3 * j + 2)) v)) (fun v hv => by rw [(h.2 v).2, if_pos hv, r6_lt hv, r6_lt hv])]
/-- what a method of the state i leaves: all else as it was, a boolean, the state a -/
def pS (M : wM) (J : wJ) (i : Nat) (a : aS) (u : wM × wJ) : Prop := u.2 = J ∧ kp M u.1 (stc i) ∧ bz (u.1 (3 * i) 0) ∧ sv u.1 i = a
theorem p_join1 {M : wM} {J : wJ} {i j : Nat} (hz : bz (M (3 * i) 0)) (h : ¬ M (3 * j) 0 = 0) : pS M J i (jn (sv M i) (sv M j)) (M, J) := by
  refine ⟨rfl, kp_refl _ _, hz, ?_⟩
  rw [sv_none h]
  cases sv M i <;> rfl
theorem p_join2 {M : wM} {J : wJ} {i j : Nat} (hij : i ≠ j) (hz : bz (M (3 * j) 0)) (h : ¬ M (3 * i) 0 = 0) : pS M J i (jn (sv M i) (sv M j)) (F_X7_become M i j, J) := by
  refine ⟨rfl, become_kp, ?_, ?_⟩
  · show bz (F_X7_become M i j (3 * i) 0)
    rw [become_z]; exact hz
  · show sv (F_X7_become M i j) i = _
    rw [become_sv hij, sv_none h]
    cases sv M j <;> rfl
theorem p_join3 {M M1 : wM} {J : wJ} {i j : Nat} (h0 : M (3 * i) 0 = 0) (h1 : M (3 * j) 0 = 0) (h : I2 i_mn i_mx M i j 6 M1) : pS M J i (jn (sv M i) (sv M j)) (M1, J) := by
  refine ⟨rfl, I2_kp h, ?_, ?_⟩
  · show bz (M1 (3 * i) 0)
    rw [I2_z h, h0]; exact bz_0
  · show sv M1 i = _
    rw [I2_sv h h0, sv_some h0, sv_some h1]; rfl
theorem p_nar1 {M : wM} {J : wJ} {i j : Nat} (h : ¬ M (3 * i) 0 = 0 ∨ ¬ M (3 * j) 0 = 0) : pS M J i (nw (sv M i) (sv M j)) (wU M (3 * i) 0 (nI 1), J) := by
  refine ⟨rfl, kp_U (Or.inl rfl), ?_, ?_⟩
  · show bz (wU M (3 * i) 0 (nI 1) (3 * i) 0)
    rw [wU_at, if_pos ⟨rfl, rfl⟩]; exact Or.inr rfl
  · show sv (wU M (3 * i) 0 (nI 1)) i = _
    rw [sv_none (M := wU M (3 * i) 0 (nI 1)) (by rw [wU_at, if_pos ⟨rfl, rfl⟩]; decide)]
    rcases h with h | h
    · rw [sv_none h]; rfl
    · rw [sv_none h]; cases sv M i <;> rfl
theorem p_nar2 {M M1 : wM} {J : wJ} {i j : Nat} (h0 : M (3 * i) 0 = 0) (h1 : M (3 * j) 0 = 0) (h : I2 i_mx i_mn M i j 6 M1) : pS M J i (nw (sv M i) (sv M j)) (M1, J) := by
  refine ⟨rfl, I2_kp h, ?_, ?_⟩
  · show bz (M1 (3 * i) 0)
    rw [I2_z h, h0]; exact bz_0
  · show sv M1 i = _
    rw [I2_sv h h0, sv_some h0, sv_some h1]; rfl
/-- the first k variables of two states are the same -/
def Id (M : wM) (i j k : Nat) : Prop := ∀ v, v < k → M (3 * i + 1) v = M (3 * j + 1) v ∧ M (3 * i + 2) v = M (3 * j + 2) v
theorem Id_step {M : wM} {i j k : Nat} (h : Id M i j k) (a : M (3 * i + 1) k = M (3 * j + 1) k) (b : M (3 * i + 2) k = M (3 * j + 2) k) : Id M i j (k + 1) := fun v hv => by
  by_cases q : v = k
  · subst q; exact ⟨a, b⟩
  · exact h v (by omega)
theorem Id_0 {M : wM} {i j : Nat} : Id M i j 0 := fun v hv => absurd hv (Nat.not_lt_zero v)
theorem Id_end {M : wM} {i j : Nat} (h : Id M i j 6) (h0 : M (3 * i) 0 = 0) (h1 : M (3 * j) 0 = 0) : sv M i = sv M j := by
  rw [sv_some h0, sv_some h1, r6_ext (fun v hv => (h v hv).1), r6_ext (f := M (3 * i + 2)) (fun v hv => (h v hv).2)]
theorem Id_ne {M : wM} {i j k : Nat} (hk : k < 6) (h0 : M (3 * i) 0 = 0) (h1 : M (3 * j) 0 = 0) (h : ¬ M (3 * i + 1) k = M (3 * j + 1) k ∨ ¬ M (3 * i + 2) k = M (3 * j + 2) k) : ¬ sv M i = sv M j := by
  rw [sv_some h0, sv_some h1]
  intro q
  have q := Option.some.inj q
  have q1 := congrFun (congrArg Prod.fst q) k
  have q2 := congrFun (congrArg Prod.snd q) k
  simp only [r6_lt hk] at q1 q2
  rcases h with h | h
  · exact h q1
  · exact h q2
theorem Id_z {M : wM} {i j : Nat} (zi : bz (M (3 * i) 0)) (zj : bz (M (3 * j) 0)) (h : ¬ M (3 * i) 0 = 0 ∨ ¬ M (3 * j) 0 = 0) : M (3 * i) 0 = M (3 * j) 0 ↔ sv M i = sv M j := by
  rw [bz, nI_0] at zi zj
  rcases zi with a | a <;> rcases zj with b | b
  · simp [a, b] at h
  · rw [a, b, sv_some a, sv_none (M := M) (i := j) (by rw [b]; decide)]
    exact ⟨fun q => absurd q (by decide), fun q => by cases q⟩
  · rw [a, b, sv_some b, sv_none (M := M) (i := i) (by rw [a]; decide)]
    exact ⟨fun q => absurd q (by decide), fun q => by cases q⟩
  · rw [a, b, sv_none (M := M) (i := i) (by rw [a]; decide), sv_none (M := M) (i := j) (by rw [b]; decide)]
    exact ⟨fun _ => rfl, fun _ => rfl⟩
theorem isC_0 {M : wM} {i v : Nat} : E_X7_isConstant M i v = 0 ↔ ¬ M (3 * i + 1) v = M (3 * i + 2) v := by
  unfold E_X7_isConstant
  by_cases h : M (3 * i + 1) v = M (3 * i + 2) v
  · rw [if_pos h]; exact ⟨fun q => absurd q (by decide), fun q => absurd h q⟩
  · rw [if_neg h]; exact ⟨fun _ => h, fun _ => by decide⟩
/-- how many of the first k variables have one integer -/
def ccn (f g : Nat → Int32) : Nat → Nat
  | 0 => 0
  | k + 1 => ccn f g k + (if f k = g k then 1 else 0)
theorem ccn_le (f g : Nat → Int32) : ∀ k, ccn f g k ≤ k
  | 0 => Nat.le_refl 0
  | k + 1 => by
    have := ccn_le f g k
    show ccn f g k + (if f k = g k then 1 else 0) ≤ k + 1
    by_cases h : f k = g k
    · rw [if_pos h]; omega
    · rw [if_neg h]; omega
theorem ccn_1 {f g : Nat → Int32} {k : Nat} (h : f k = g k) : ccn f g (k + 1) = ccn f g k + 1 := by
  show ccn f g k + (if f k = g k then 1 else 0) = _
  rw [if_pos h]
theorem ccn_2 {f g : Nat → Int32} {k : Nat} (h : ¬ f k = g k) : ccn f g (k + 1) = ccn f g k := by
  show ccn f g k + (if f k = g k then 1 else 0) = _
  rw [if_neg h]; rfl
theorem ccn_ext {f g f' g' : Nat → Int32} : ∀ k, (∀ v, v < k → f v = f' v ∧ g v = g' v) → ccn f g k = ccn f' g' k
  | 0, _ => rfl
  | k + 1, h => by
    show ccn f g k + (if f k = g k then 1 else 0) = ccn f' g' k + (if f' k = g' k then 1 else 0)
    rw [ccn_ext k (fun v hv => h v (by omega)), (h k (by omega)).1, (h k (by omega)).2]
def ccS (a : aS) : Nat := match a with
  | none => 0
  | some f => ccn f.1 f.2 6
theorem ccS_none {M : wM} {i : Nat} (h : ¬ M (3 * i) 0 = 0) : ccS (sv M i) = 0 := by rw [sv_none h]; rfl
theorem ccS_some {M : wM} {i : Nat} (h : M (3 * i) 0 = 0) : ccS (sv M i) = ccn (M (3 * i + 1)) (M (3 * i + 2)) 6 := by
  rw [sv_some h]
  exact ccn_ext 6 (fun v hv => ⟨r6_lt hv, r6_lt hv⟩)
end
section
/-! State: the methods with loops: laid by wip/gen/specs3.py -/
set_option maxHeartbeats 4000000 in
set_option maxRecDepth 100000 in
theorem k_X7_join (l : Launch) (D : va_G) (ad : Nat → Nat) (cs : Nat → ClassId) (sz : Nat) (M : wM) (J : wJ) (i : Nat) (j : Nat) (hi : i < 67) (hj : j < 67) (hij : i ≠ j) (zi : bz (M (3 * i) 0)) (zj : bz (M (3 * j) 0)) : wCv l yX7_join wsX7_join { frames := 2, cells := 0, slots := 0, locals := 81 } D 340 cSh ad cs [.ref (ad (3 * i)), .ref (ad (3 * j))] sz M J (pS M J i (jn (sv M i) (sv M j))) := by
  refine wC_v (cc := cX7_join) (maxL := 3) (ret := none) (by decide) rfl (Nat.le_of_ble_eq_true rfl) ?_
  intro p e s m below meth c ls A hx hb hr hml hown hts hlocks hK hA hw hl hAe
  clear hAe
  have hl : lv_has ls 3 [(0, .ref (ad (3 * i))), (1, .ref (ad (3 * j)))] := hl
  have f9 : (Cond.fieldLink RX7 9 "RangePropagator$State" "isNone" "Z").before _ s = true := hts _ (by decide +kernel)
  have iX7 : ∀ w ∈ wsX70, w ∈ wsX7_join := by decide +kernel
  have f15 : (Cond.fieldLink RX7 15 "RangePropagator$State" "low" "[I").before _ s = true := hts _ (by decide +kernel)
  have m32 : (Cond.methodLink RX7 32 Lib.Math.min.name).before _ s = true := hts _ (by decide +kernel)
  have t32 : (Cond.static Lib.Math.min.name).before _ s = true := hts _ (by decide +kernel)
  have iMath : (Cond.initialized "java/lang/Math").before _ s = true := hts _ (by decide +kernel)
  have c32 : (Cond.code Lib.Math.min.name Lib.Math.min.code 2 (some .int)).before _ s = true := hts _ (by decide +kernel)
  have f19 : (Cond.fieldLink RX7 19 "RangePropagator$State" "high" "[I").before _ s = true := hts _ (by decide +kernel)
  have m38 : (Cond.methodLink RX7 38 Lib.Math.max.name).before _ s = true := hts _ (by decide +kernel)
  have t38 : (Cond.static Lib.Math.max.name).before _ s = true := hts _ (by decide +kernel)
  have c38 : (Cond.code Lib.Math.max.name Lib.Math.max.code 2 (some .int)).before _ s = true := hts _ (by decide +kernel)
  refine lv_aload_n hx hb dX7_join_0 rfl (lv_at hl 1 rfl) ?_
  refine wr_gi hx hb hown hK hts iX7 (ci := 6) rfl 0 (by decide) f9 rfl hw (3 * j) (by omega) (cs_S (by omega)) rfl dX7_join_1 ?_
  refine lv_if_eq (tgt := 8) hx hb dX7_join_4 (by decide) (fun q1 => ?_) (fun q1 => ?_)
  · skip
    refine lv_aload_n hx hb dX7_join_8 rfl (lv_at hl 0 rfl) ?_
    refine wr_gi hx hb hown hK hts iX7 (ci := 6) rfl 0 (by decide) f9 rfl hw (3 * i) (by omega) (cs_S (by omega)) rfl dX7_join_9 ?_
    refine lv_if_eq (tgt := 21) hx hb dX7_join_12 (by decide) (fun q2 => ?_) (fun q2 => ?_)
    · skip
      refine lv_iconst (v := nI 0) hx hb dX7_join_21 (by decide) ?_
      refine lv_istore_n (lv' := [(2, .int (nI 0)), (0, .ref (ad (3 * i))), (1, .ref (ad (3 * j)))]) hx hb dX7_join_22 rfl hl (by decide) rfl (fun ls hl => ?_)
      refine w_loop (σ := Nat) (fun k M' J' ls => lv_has ls 3 [(0, .ref (ad (3 * i))), (1, .ref (ad (3 * j))), (2, .int (nI k))] ∧ J' = J ∧ k ≤ 6 ∧ I2 i_mn i_mx M i j k M') (fun k => 6 - k) (fun k M3 J1_ H locs ls hI hw ih4 => ?_) 0 ⟨lv_sub hl [1, 2, 0] rfl, rfl, by omega, I2_0⟩ hw
      obtain ⟨hl, eJ_, hk_, hI⟩ := hI
      rw [eJ_] at hw
      clear eJ_
      refine lv_iload_n hx hb dX7_join_23 rfl (lv_at hl 2 rfl) ?_
      refine lv_bipush (v := nI 6) hx hb dX7_join_24 (by decide) ?_
      refine lv_icmp_ge (tgt := 77) hx hb dX7_join_26 (by decide) (fun q5 => ?_) (fun q5 => ?_)
      · have q5n : 6 ≤ k := (nI_leI (by omega) (by omega)).mp q5
        exact wr_vret hx hb hr hK hw (by have e : k = 6 := (by omega); subst e; exact p_join3 q2 q1 hI) hlocks dX7_join_77
      · have q5n : ¬ 6 ≤ k := fun z => q5 ((nI_leI (by omega) (by omega)).mpr z)
        refine lv_aload_n hx hb dX7_join_29 rfl (lv_at hl 0 rfl) ?_
        refine wr_gr hx hb hown hK hts iX7 (ci := 6) rfl 1 (by decide) f15 rfl hw (3 * i) (by omega) (3 * i + 1) (cs_S (by omega)) rfl dX7_join_30 ?_
        refine lv_iload_n hx hb dX7_join_33 rfl (lv_at hl 2 rfl) ?_
        refine lv_aload_n hx hb dX7_join_34 rfl (lv_at hl 0 rfl) ?_
        refine wr_gr hx hb hown hK hts iX7 (ci := 6) rfl 1 (by decide) f15 rfl hw (3 * i) (by omega) (3 * i + 1) (cs_S (by omega)) rfl dX7_join_35 ?_
        refine lv_iload_n hx hb dX7_join_38 rfl (lv_at hl 2 rfl) ?_
        refine wr_ildN hx hb hK hw (3 * i + 1) (by omega) (cs_SL (by omega)) (by decide) k rfl (by omega) dX7_join_39 ?_
        refine lv_aload_n hx hb dX7_join_40 rfl (lv_at hl 1 rfl) ?_
        refine wr_gr hx hb hown hK hts iX7 (ci := 6) rfl 1 (by decide) f15 rfl hw (3 * j) (by omega) (3 * j + 1) (cs_S (by omega)) rfl dX7_join_41 ?_
        refine lv_iload_n hx hb dX7_join_44 rfl (lv_at hl 2 rfl) ?_
        refine wr_ildN hx hb hK hw (3 * j + 1) (by omega) (cs_SL (by omega)) (by decide) k rfl (by omega) dX7_join_45 ?_
        refine va_mmin hx hb (hml.trans hl.1.symm) hown m32 t32 iMath c32 (Nat.le_of_ble_eq_true rfl) (Nat.le_of_ble_eq_true rfl) (Nat.le_of_ble_eq_true rfl) (Nat.le_of_ble_eq_true rfl) dX7_join_46 ?_
        refine W.eq (g2 := F0 m 49 ls [.int ((i_mn (M3 (3 * i + 1) k) (M3 (3 * j + 1) k))), .int (nI k), .ref (ad (3 * i + 1))]) rfl ?_
        refine wr_istN hx hb hK hw (3 * i + 1) (by omega) (cs_SL (by omega)) (by decide) k rfl (by omega) dX7_join_49 (fun H locs hw => ?_)
        refine lv_aload_n hx hb dX7_join_50 rfl (lv_at hl 0 rfl) ?_
        refine wr_gr hx hb hown hK hts iX7 (ci := 6) rfl 2 (by decide) f19 rfl hw (3 * i) (by omega) (3 * i + 2) (cs_S (by omega)) rfl dX7_join_51 ?_
        refine lv_iload_n hx hb dX7_join_54 rfl (lv_at hl 2 rfl) ?_
        refine lv_aload_n hx hb dX7_join_55 rfl (lv_at hl 0 rfl) ?_
        refine wr_gr hx hb hown hK hts iX7 (ci := 6) rfl 2 (by decide) f19 rfl hw (3 * i) (by omega) (3 * i + 2) (cs_S (by omega)) rfl dX7_join_56 ?_
        refine lv_iload_n hx hb dX7_join_59 rfl (lv_at hl 2 rfl) ?_
        refine wr_ildN hx hb hK hw (3 * i + 2) (by omega) (cs_SH (by omega)) (by decide) k rfl (by omega) dX7_join_60 ?_
        refine lv_aload_n hx hb dX7_join_61 rfl (lv_at hl 1 rfl) ?_
        refine wr_gr hx hb hown hK hts iX7 (ci := 6) rfl 2 (by decide) f19 rfl hw (3 * j) (by omega) (3 * j + 2) (cs_S (by omega)) rfl dX7_join_62 ?_
        refine lv_iload_n hx hb dX7_join_65 rfl (lv_at hl 2 rfl) ?_
        refine wr_ildN hx hb hK hw (3 * j + 2) (by omega) (cs_SH (by omega)) (by decide) k rfl (by omega) dX7_join_66 ?_
        refine va_mmax hx hb (hml.trans hl.1.symm) hown m38 t38 iMath c38 (Nat.le_of_ble_eq_true rfl) (Nat.le_of_ble_eq_true rfl) (Nat.le_of_ble_eq_true rfl) (Nat.le_of_ble_eq_true rfl) dX7_join_67 ?_
        refine W.eq (g2 := F0 m 70 ls [.int ((i_mx ((wU M3 (3 * i + 1) k ((i_mn (M3 (3 * i + 1) k) (M3 (3 * j + 1) k)))) (3 * i + 2) k) ((wU M3 (3 * i + 1) k ((i_mn (M3 (3 * i + 1) k) (M3 (3 * j + 1) k)))) (3 * j + 2) k))), .int (nI k), .ref (ad (3 * i + 2))]) rfl ?_
        refine wr_istN hx hb hK hw (3 * i + 2) (by omega) (cs_SH (by omega)) (by decide) k rfl (by omega) dX7_join_70 (fun H locs hw => ?_)
        refine lv_iinc (v := nI (k + 1)) (lv' := [(2, .int (nI (k + 1))), (0, .ref (ad (3 * i))), (1, .ref (ad (3 * j)))]) hx hb dX7_join_71 hl (k := 2) rfl (nI_1 _) (by decide) rfl (fun ls hl => ?_)
        refine lv_goto (tgt := 23) hx hb dX7_join_74 (by decide) ?_
        exact ih4 (k + 1) (wU (wU M3 (3 * i + 1) k ((i_mn (M3 (3 * i + 1) k) (M3 (3 * j + 1) k)))) (3 * i + 2) k ((i_mx ((wU M3 (3 * i + 1) k ((i_mn (M3 (3 * i + 1) k) (M3 (3 * j + 1) k)))) (3 * i + 2) k) ((wU M3 (3 * i + 1) k ((i_mn (M3 (3 * i + 1) k) (M3 (3 * j + 1) k)))) (3 * j + 2) k)))) J _ _ _ (by omega) ⟨lv_sub hl [1, 2, 0] rfl, rfl, by omega, I2_step hij hI⟩ hw
    · skip
      refine lv_aload_n hx hb dX7_join_15 rfl (lv_at hl 0 rfl) ?_
      refine lv_aload_n hx hb dX7_join_16 rfl (lv_at hl 1 rfl) ?_
      refine wr_cVv (k := 3 * i) (ci := 6) (As := [.ref (ad (3 * j))]) (rest := []) ⟨hx, hb, hml, hown, hts⟩ (cwV 1 hts gX7_join_X7_become rfl rfl rfl (by decide +kernel) ⟨Nat.le_of_ble_eq_true rfl, Nat.le_of_ble_eq_true rfl⟩) hK hA hw (k_X7_become l D ad cs s.heap.size M J i j (by omega) (by omega) zj) (by omega) (cs_S (by omega)) rfl rfl rfl hl.1 (Nat.le_of_ble_eq_true rfl) ⟨Nat.le_of_ble_eq_true rfl, Nat.le_of_ble_eq_true rfl⟩ dX7_join_17 (fun M7 J8 H locs h9 hw => ?_)
      cases h9
      exact wr_vret hx hb hr hK hw (p_join2 hij zj q2) hlocks dX7_join_20
  · skip
    exact wr_vret hx hb hr hK hw (p_join1 zi q1) hlocks dX7_join_7
set_option maxHeartbeats 4000000 in
set_option maxRecDepth 100000 in
theorem k_X7_narrowTo (l : Launch) (D : va_G) (ad : Nat → Nat) (cs : Nat → ClassId) (sz : Nat) (M : wM) (J : wJ) (i : Nat) (j : Nat) (hi : i < 67) (hj : j < 67) (hij : i ≠ j) : wCv l yX7_narrowTo wsX7_narrowTo { frames := 1, cells := 0, slots := 0, locals := 31 } D 340 cSh ad cs [.ref (ad (3 * i)), .ref (ad (3 * j))] sz M J (pS M J i (nw (sv M i) (sv M j))) := by
  refine wC_v (cc := cX7_narrowTo) (maxL := 3) (ret := none) (by decide) rfl (Nat.le_of_ble_eq_true rfl) ?_
  intro p e s m below meth c ls A hx hb hr hml hown hts hlocks hK hA hw hl hAe
  clear hAe
  have hl : lv_has ls 3 [(0, .ref (ad (3 * i))), (1, .ref (ad (3 * j)))] := hl
  have f9 : (Cond.fieldLink RX7 9 "RangePropagator$State" "isNone" "Z").before _ s = true := hts _ (by decide +kernel)
  have iX7 : ∀ w ∈ wsX70, w ∈ wsX7_narrowTo := by decide +kernel
  have f15 : (Cond.fieldLink RX7 15 "RangePropagator$State" "low" "[I").before _ s = true := hts _ (by decide +kernel)
  have m38 : (Cond.methodLink RX7 38 Lib.Math.max.name).before _ s = true := hts _ (by decide +kernel)
  have t38 : (Cond.static Lib.Math.max.name).before _ s = true := hts _ (by decide +kernel)
  have iMath : (Cond.initialized "java/lang/Math").before _ s = true := hts _ (by decide +kernel)
  have c38 : (Cond.code Lib.Math.max.name Lib.Math.max.code 2 (some .int)).before _ s = true := hts _ (by decide +kernel)
  have f19 : (Cond.fieldLink RX7 19 "RangePropagator$State" "high" "[I").before _ s = true := hts _ (by decide +kernel)
  have m32 : (Cond.methodLink RX7 32 Lib.Math.min.name).before _ s = true := hts _ (by decide +kernel)
  have t32 : (Cond.static Lib.Math.min.name).before _ s = true := hts _ (by decide +kernel)
  have c32 : (Cond.code Lib.Math.min.name Lib.Math.min.code 2 (some .int)).before _ s = true := hts _ (by decide +kernel)
  refine lv_aload_n hx hb dX7_narrowTo_0 rfl (lv_at hl 0 rfl) ?_
  refine wr_gi hx hb hown hK hts iX7 (ci := 6) rfl 0 (by decide) f9 rfl hw (3 * i) (by omega) (cs_S (by omega)) rfl dX7_narrowTo_1 ?_
  refine lv_if_ne (tgt := 14) hx hb dX7_narrowTo_4 (by decide) (fun q1 => ?_) (fun q1 => ?_)
  · skip
    refine lv_aload_n hx hb dX7_narrowTo_14 rfl (lv_at hl 0 rfl) ?_
    refine lv_iconst (v := nI 1) hx hb dX7_narrowTo_15 (by decide) ?_
    refine wr_pi hx hb hown hK hts iX7 tyX7_ok nmX7 (ci := 6) rfl 0 (by decide) f9 rfl rfl hw (3 * i) (by omega) (cs_S (by omega)) rfl (by decide) (by decide) dX7_narrowTo_16 (fun H locs hw => ?_)
    exact wr_vret hx hb hr hK hw (p_nar1 (Or.inl q1)) hlocks dX7_narrowTo_19
  · skip
    refine lv_aload_n hx hb dX7_narrowTo_7 rfl (lv_at hl 1 rfl) ?_
    refine wr_gi hx hb hown hK hts iX7 (ci := 6) rfl 0 (by decide) f9 rfl hw (3 * j) (by omega) (cs_S (by omega)) rfl dX7_narrowTo_8 ?_
    refine lv_if_eq (tgt := 20) hx hb dX7_narrowTo_11 (by decide) (fun q2 => ?_) (fun q2 => ?_)
    · skip
      refine lv_iconst (v := nI 0) hx hb dX7_narrowTo_20 (by decide) ?_
      refine lv_istore_n (lv' := [(2, .int (nI 0)), (0, .ref (ad (3 * i))), (1, .ref (ad (3 * j)))]) hx hb dX7_narrowTo_21 rfl hl (by decide) rfl (fun ls hl => ?_)
      refine w_loop (σ := Nat) (fun k M' J' ls => lv_has ls 3 [(0, .ref (ad (3 * i))), (1, .ref (ad (3 * j))), (2, .int (nI k))] ∧ J' = J ∧ k ≤ 6 ∧ I2 i_mx i_mn M i j k M') (fun k => 6 - k) (fun k M3 J1_ H locs ls hI hw ih4 => ?_) 0 ⟨lv_sub hl [1, 2, 0] rfl, rfl, by omega, I2_0⟩ hw
      obtain ⟨hl, eJ_, hk_, hI⟩ := hI
      rw [eJ_] at hw
      clear eJ_
      refine lv_iload_n hx hb dX7_narrowTo_22 rfl (lv_at hl 2 rfl) ?_
      refine lv_bipush (v := nI 6) hx hb dX7_narrowTo_23 (by decide) ?_
      refine lv_icmp_ge (tgt := 76) hx hb dX7_narrowTo_25 (by decide) (fun q5 => ?_) (fun q5 => ?_)
      · have q5n : 6 ≤ k := (nI_leI (by omega) (by omega)).mp q5
        exact wr_vret hx hb hr hK hw (by have e : k = 6 := (by omega); subst e; exact p_nar2 q1 q2 hI) hlocks dX7_narrowTo_76
      · have q5n : ¬ 6 ≤ k := fun z => q5 ((nI_leI (by omega) (by omega)).mpr z)
        refine lv_aload_n hx hb dX7_narrowTo_28 rfl (lv_at hl 0 rfl) ?_
        refine wr_gr hx hb hown hK hts iX7 (ci := 6) rfl 1 (by decide) f15 rfl hw (3 * i) (by omega) (3 * i + 1) (cs_S (by omega)) rfl dX7_narrowTo_29 ?_
        refine lv_iload_n hx hb dX7_narrowTo_32 rfl (lv_at hl 2 rfl) ?_
        refine lv_aload_n hx hb dX7_narrowTo_33 rfl (lv_at hl 0 rfl) ?_
        refine wr_gr hx hb hown hK hts iX7 (ci := 6) rfl 1 (by decide) f15 rfl hw (3 * i) (by omega) (3 * i + 1) (cs_S (by omega)) rfl dX7_narrowTo_34 ?_
        refine lv_iload_n hx hb dX7_narrowTo_37 rfl (lv_at hl 2 rfl) ?_
        refine wr_ildN hx hb hK hw (3 * i + 1) (by omega) (cs_SL (by omega)) (by decide) k rfl (by omega) dX7_narrowTo_38 ?_
        refine lv_aload_n hx hb dX7_narrowTo_39 rfl (lv_at hl 1 rfl) ?_
        refine wr_gr hx hb hown hK hts iX7 (ci := 6) rfl 1 (by decide) f15 rfl hw (3 * j) (by omega) (3 * j + 1) (cs_S (by omega)) rfl dX7_narrowTo_40 ?_
        refine lv_iload_n hx hb dX7_narrowTo_43 rfl (lv_at hl 2 rfl) ?_
        refine wr_ildN hx hb hK hw (3 * j + 1) (by omega) (cs_SL (by omega)) (by decide) k rfl (by omega) dX7_narrowTo_44 ?_
        refine va_mmax hx hb (hml.trans hl.1.symm) hown m38 t38 iMath c38 (Nat.le_of_ble_eq_true rfl) (Nat.le_of_ble_eq_true rfl) (Nat.le_of_ble_eq_true rfl) (Nat.le_of_ble_eq_true rfl) dX7_narrowTo_45 ?_
        refine W.eq (g2 := F0 m 48 ls [.int ((i_mx (M3 (3 * i + 1) k) (M3 (3 * j + 1) k))), .int (nI k), .ref (ad (3 * i + 1))]) rfl ?_
        refine wr_istN hx hb hK hw (3 * i + 1) (by omega) (cs_SL (by omega)) (by decide) k rfl (by omega) dX7_narrowTo_48 (fun H locs hw => ?_)
        refine lv_aload_n hx hb dX7_narrowTo_49 rfl (lv_at hl 0 rfl) ?_
        refine wr_gr hx hb hown hK hts iX7 (ci := 6) rfl 2 (by decide) f19 rfl hw (3 * i) (by omega) (3 * i + 2) (cs_S (by omega)) rfl dX7_narrowTo_50 ?_
        refine lv_iload_n hx hb dX7_narrowTo_53 rfl (lv_at hl 2 rfl) ?_
        refine lv_aload_n hx hb dX7_narrowTo_54 rfl (lv_at hl 0 rfl) ?_
        refine wr_gr hx hb hown hK hts iX7 (ci := 6) rfl 2 (by decide) f19 rfl hw (3 * i) (by omega) (3 * i + 2) (cs_S (by omega)) rfl dX7_narrowTo_55 ?_
        refine lv_iload_n hx hb dX7_narrowTo_58 rfl (lv_at hl 2 rfl) ?_
        refine wr_ildN hx hb hK hw (3 * i + 2) (by omega) (cs_SH (by omega)) (by decide) k rfl (by omega) dX7_narrowTo_59 ?_
        refine lv_aload_n hx hb dX7_narrowTo_60 rfl (lv_at hl 1 rfl) ?_
        refine wr_gr hx hb hown hK hts iX7 (ci := 6) rfl 2 (by decide) f19 rfl hw (3 * j) (by omega) (3 * j + 2) (cs_S (by omega)) rfl dX7_narrowTo_61 ?_
        refine lv_iload_n hx hb dX7_narrowTo_64 rfl (lv_at hl 2 rfl) ?_
        refine wr_ildN hx hb hK hw (3 * j + 2) (by omega) (cs_SH (by omega)) (by decide) k rfl (by omega) dX7_narrowTo_65 ?_
        refine va_mmin hx hb (hml.trans hl.1.symm) hown m32 t32 iMath c32 (Nat.le_of_ble_eq_true rfl) (Nat.le_of_ble_eq_true rfl) (Nat.le_of_ble_eq_true rfl) (Nat.le_of_ble_eq_true rfl) dX7_narrowTo_66 ?_
        refine W.eq (g2 := F0 m 69 ls [.int ((i_mn ((wU M3 (3 * i + 1) k ((i_mx (M3 (3 * i + 1) k) (M3 (3 * j + 1) k)))) (3 * i + 2) k) ((wU M3 (3 * i + 1) k ((i_mx (M3 (3 * i + 1) k) (M3 (3 * j + 1) k)))) (3 * j + 2) k))), .int (nI k), .ref (ad (3 * i + 2))]) rfl ?_
        refine wr_istN hx hb hK hw (3 * i + 2) (by omega) (cs_SH (by omega)) (by decide) k rfl (by omega) dX7_narrowTo_69 (fun H locs hw => ?_)
        refine lv_iinc (v := nI (k + 1)) (lv' := [(2, .int (nI (k + 1))), (0, .ref (ad (3 * i))), (1, .ref (ad (3 * j)))]) hx hb dX7_narrowTo_70 hl (k := 2) rfl (nI_1 _) (by decide) rfl (fun ls hl => ?_)
        refine lv_goto (tgt := 22) hx hb dX7_narrowTo_73 (by decide) ?_
        exact ih4 (k + 1) (wU (wU M3 (3 * i + 1) k ((i_mx (M3 (3 * i + 1) k) (M3 (3 * j + 1) k)))) (3 * i + 2) k ((i_mn ((wU M3 (3 * i + 1) k ((i_mx (M3 (3 * i + 1) k) (M3 (3 * j + 1) k)))) (3 * i + 2) k) ((wU M3 (3 * i + 1) k ((i_mx (M3 (3 * i + 1) k) (M3 (3 * j + 1) k)))) (3 * j + 2) k)))) J _ _ _ (by omega) ⟨lv_sub hl [1, 2, 0] rfl, rfl, by omega, I2_step hij hI⟩ hw
    · skip
      refine lv_aload_n hx hb dX7_narrowTo_14 rfl (lv_at hl 0 rfl) ?_
      refine lv_iconst (v := nI 1) hx hb dX7_narrowTo_15 (by decide) ?_
      refine wr_pi hx hb hown hK hts iX7 tyX7_ok nmX7 (ci := 6) rfl 0 (by decide) f9 rfl rfl hw (3 * i) (by omega) (cs_S (by omega)) rfl (by decide) (by decide) dX7_narrowTo_16 (fun H locs hw => ?_)
      exact wr_vret hx hb hr hK hw (p_nar1 (Or.inr q2)) hlocks dX7_narrowTo_19
set_option maxHeartbeats 4000000 in
set_option maxRecDepth 100000 in
theorem k_X7_differsFrom (l : Launch) (D : va_G) (ad : Nat → Nat) (cs : Nat → ClassId) (sz : Nat) (M : wM) (J : wJ) (i : Nat) (j : Nat) (hi : i < 67) (hj : j < 67) (zi : bz (M (3 * i) 0)) (zj : bz (M (3 * j) 0)) : wCi l yX7_differsFrom wsX7_differsFrom { frames := 0, cells := 0, slots := 0, locals := 0 } D 340 cSh ad cs [.ref (ad (3 * i)), .ref (ad (3 * j))] sz M J (fun r_ u_ => u_ = (M, J) ∧ bz r_ ∧ (r_ = nI 0 ↔ sv M i = sv M j)) := by
  refine wC_i (cc := cX7_differsFrom) (maxL := 3) (ret := (some .boolean)) (by decide) rfl (Nat.le_of_ble_eq_true rfl) ?_
  intro p e s m below meth c ls A hx hb hr hml hown hts hlocks hK hA hw hl hAe
  clear hAe
  have hl : lv_has ls 3 [(0, .ref (ad (3 * i))), (1, .ref (ad (3 * j)))] := hl
  have f9 : (Cond.fieldLink RX7 9 "RangePropagator$State" "isNone" "Z").before _ s = true := hts _ (by decide +kernel)
  have iX7 : ∀ w ∈ wsX70, w ∈ wsX7_differsFrom := by decide +kernel
  have f15 : (Cond.fieldLink RX7 15 "RangePropagator$State" "low" "[I").before _ s = true := hts _ (by decide +kernel)
  have f19 : (Cond.fieldLink RX7 19 "RangePropagator$State" "high" "[I").before _ s = true := hts _ (by decide +kernel)
  refine lv_aload_n hx hb dX7_differsFrom_0 rfl (lv_at hl 0 rfl) ?_
  refine wr_gi hx hb hown hK hts iX7 (ci := 6) rfl 0 (by decide) f9 rfl hw (3 * i) (by omega) (cs_S (by omega)) rfl dX7_differsFrom_1 ?_
  refine lv_if_ne (tgt := 14) hx hb dX7_differsFrom_4 (by decide) (fun q1 => ?_) (fun q1 => ?_)
  · skip
    refine lv_aload_n hx hb dX7_differsFrom_14 rfl (lv_at hl 0 rfl) ?_
    refine wr_gi hx hb hown hK hts iX7 (ci := 6) rfl 0 (by decide) f9 rfl hw (3 * i) (by omega) (cs_S (by omega)) rfl dX7_differsFrom_15 ?_
    refine lv_aload_n hx hb dX7_differsFrom_18 rfl (lv_at hl 1 rfl) ?_
    refine wr_gi hx hb hown hK hts iX7 (ci := 6) rfl 0 (by decide) f9 rfl hw (3 * j) (by omega) (cs_S (by omega)) rfl dX7_differsFrom_19 ?_
    refine lv_icmp_eq (tgt := 29) hx hb dX7_differsFrom_22 (by decide) (fun q2 => ?_) (fun q2 => ?_)
    · skip
      refine lv_iconst (v := nI 0) hx hb dX7_differsFrom_29 (by decide) ?_
      exact wr_iret hx hb hr (by decide) hK hw ⟨rfl, Or.inl rfl, fun _ => (Id_z zi zj (Or.inl q1)).mp q2, fun _ => rfl⟩ hlocks dX7_differsFrom_30
    · skip
      refine lv_iconst (v := nI 1) hx hb dX7_differsFrom_25 (by decide) ?_
      refine lv_goto (tgt := 30) hx hb dX7_differsFrom_26 (by decide) ?_
      exact wr_iret hx hb hr (by decide) hK hw ⟨rfl, Or.inr rfl, fun z => absurd z (by decide), fun z => absurd ((Id_z zi zj (Or.inl q1)).mpr z) q2⟩ hlocks dX7_differsFrom_30
  · skip
    refine lv_aload_n hx hb dX7_differsFrom_7 rfl (lv_at hl 1 rfl) ?_
    refine wr_gi hx hb hown hK hts iX7 (ci := 6) rfl 0 (by decide) f9 rfl hw (3 * j) (by omega) (cs_S (by omega)) rfl dX7_differsFrom_8 ?_
    refine lv_if_eq (tgt := 31) hx hb dX7_differsFrom_11 (by decide) (fun q3 => ?_) (fun q3 => ?_)
    · skip
      refine lv_iconst (v := nI 0) hx hb dX7_differsFrom_31 (by decide) ?_
      refine lv_istore_n (lv' := [(2, .int (nI 0)), (0, .ref (ad (3 * i))), (1, .ref (ad (3 * j)))]) hx hb dX7_differsFrom_32 rfl hl (by decide) rfl (fun ls hl => ?_)
      refine w_loop (σ := Nat) (fun k M' J' ls => lv_has ls 3 [(0, .ref (ad (3 * i))), (1, .ref (ad (3 * j))), (2, .int (nI k))] ∧ J' = J ∧ k ≤ 6 ∧ M' = M ∧ Id M i j k) (fun k => 6 - k) (fun k M4 J1_ H locs ls hI hw ih5 => ?_) 0 ⟨lv_sub hl [1, 2, 0] rfl, rfl, by omega, rfl, Id_0⟩ hw
      obtain ⟨hl, eJ_, hk_, hI⟩ := hI
      rw [eJ_] at hw
      clear eJ_
      obtain ⟨eM_, hI⟩ := hI
      rw [eM_] at hw
      clear eM_
      refine lv_iload_n hx hb dX7_differsFrom_33 rfl (lv_at hl 2 rfl) ?_
      refine lv_bipush (v := nI 6) hx hb dX7_differsFrom_34 (by decide) ?_
      refine lv_icmp_ge (tgt := 77) hx hb dX7_differsFrom_36 (by decide) (fun q6 => ?_) (fun q6 => ?_)
      · have q6n : 6 ≤ k := (nI_leI (by omega) (by omega)).mp q6
        refine lv_iconst (v := nI 0) hx hb dX7_differsFrom_77 (by decide) ?_
        exact wr_iret hx hb hr (by decide) hK hw ⟨rfl, Or.inl rfl, fun _ => (by have e : k = 6 := (by omega); subst e; exact Id_end hI q1 q3), fun _ => rfl⟩ hlocks dX7_differsFrom_78
      · have q6n : ¬ 6 ≤ k := fun z => q6 ((nI_leI (by omega) (by omega)).mpr z)
        refine lv_aload_n hx hb dX7_differsFrom_39 rfl (lv_at hl 0 rfl) ?_
        refine wr_gr hx hb hown hK hts iX7 (ci := 6) rfl 1 (by decide) f15 rfl hw (3 * i) (by omega) (3 * i + 1) (cs_S (by omega)) rfl dX7_differsFrom_40 ?_
        refine lv_iload_n hx hb dX7_differsFrom_43 rfl (lv_at hl 2 rfl) ?_
        refine wr_ildN hx hb hK hw (3 * i + 1) (by omega) (cs_SL (by omega)) (by decide) k rfl (by omega) dX7_differsFrom_44 ?_
        refine lv_aload_n hx hb dX7_differsFrom_45 rfl (lv_at hl 1 rfl) ?_
        refine wr_gr hx hb hown hK hts iX7 (ci := 6) rfl 1 (by decide) f15 rfl hw (3 * j) (by omega) (3 * j + 1) (cs_S (by omega)) rfl dX7_differsFrom_46 ?_
        refine lv_iload_n hx hb dX7_differsFrom_49 rfl (lv_at hl 2 rfl) ?_
        refine wr_ildN hx hb hK hw (3 * j + 1) (by omega) (cs_SL (by omega)) (by decide) k rfl (by omega) dX7_differsFrom_50 ?_
        refine lv_icmp_ne (tgt := 69) hx hb dX7_differsFrom_51 (by decide) (fun q7 => ?_) (fun q7 => ?_)
        · skip
          refine lv_iconst (v := nI 1) hx hb dX7_differsFrom_69 (by decide) ?_
          exact wr_iret hx hb hr (by decide) hK hw ⟨rfl, Or.inr rfl, fun z => absurd z (by decide), fun z => absurd z (Id_ne (by omega) q1 q3 (Or.inl q7))⟩ hlocks dX7_differsFrom_70
        · skip
          refine lv_aload_n hx hb dX7_differsFrom_54 rfl (lv_at hl 0 rfl) ?_
          refine wr_gr hx hb hown hK hts iX7 (ci := 6) rfl 2 (by decide) f19 rfl hw (3 * i) (by omega) (3 * i + 2) (cs_S (by omega)) rfl dX7_differsFrom_55 ?_
          refine lv_iload_n hx hb dX7_differsFrom_58 rfl (lv_at hl 2 rfl) ?_
          refine wr_ildN hx hb hK hw (3 * i + 2) (by omega) (cs_SH (by omega)) (by decide) k rfl (by omega) dX7_differsFrom_59 ?_
          refine lv_aload_n hx hb dX7_differsFrom_60 rfl (lv_at hl 1 rfl) ?_
          refine wr_gr hx hb hown hK hts iX7 (ci := 6) rfl 2 (by decide) f19 rfl hw (3 * j) (by omega) (3 * j + 2) (cs_S (by omega)) rfl dX7_differsFrom_61 ?_
          refine lv_iload_n hx hb dX7_differsFrom_64 rfl (lv_at hl 2 rfl) ?_
          refine wr_ildN hx hb hK hw (3 * j + 2) (by omega) (cs_SH (by omega)) (by decide) k rfl (by omega) dX7_differsFrom_65 ?_
          refine lv_icmp_eq (tgt := 71) hx hb dX7_differsFrom_66 (by decide) (fun q8 => ?_) (fun q8 => ?_)
          · skip
            refine lv_iinc (v := nI (k + 1)) (lv' := [(2, .int (nI (k + 1))), (0, .ref (ad (3 * i))), (1, .ref (ad (3 * j)))]) hx hb dX7_differsFrom_71 hl (k := 2) rfl (nI_1 _) (by decide) rfl (fun ls hl => ?_)
            refine lv_goto (tgt := 33) hx hb dX7_differsFrom_74 (by decide) ?_
            exact ih5 (k + 1) M J _ _ _ (by omega) ⟨lv_sub hl [1, 2, 0] rfl, rfl, by omega, rfl, Id_step hI q7 q8⟩ hw
          · skip
            refine lv_iconst (v := nI 1) hx hb dX7_differsFrom_69 (by decide) ?_
            exact wr_iret hx hb hr (by decide) hK hw ⟨rfl, Or.inr rfl, fun z => absurd z (by decide), fun z => absurd z (Id_ne (by omega) q1 q3 (Or.inr q8))⟩ hlocks dX7_differsFrom_70
    · skip
      refine lv_aload_n hx hb dX7_differsFrom_14 rfl (lv_at hl 0 rfl) ?_
      refine wr_gi hx hb hown hK hts iX7 (ci := 6) rfl 0 (by decide) f9 rfl hw (3 * i) (by omega) (cs_S (by omega)) rfl dX7_differsFrom_15 ?_
      refine lv_aload_n hx hb dX7_differsFrom_18 rfl (lv_at hl 1 rfl) ?_
      refine wr_gi hx hb hown hK hts iX7 (ci := 6) rfl 0 (by decide) f9 rfl hw (3 * j) (by omega) (cs_S (by omega)) rfl dX7_differsFrom_19 ?_
      refine lv_icmp_eq (tgt := 29) hx hb dX7_differsFrom_22 (by decide) (fun q9 => ?_) (fun q9 => ?_)
      · skip
        refine lv_iconst (v := nI 0) hx hb dX7_differsFrom_29 (by decide) ?_
        exact wr_iret hx hb hr (by decide) hK hw ⟨rfl, Or.inl rfl, fun _ => (Id_z zi zj (Or.inr q3)).mp q9, fun _ => rfl⟩ hlocks dX7_differsFrom_30
      · skip
        refine lv_iconst (v := nI 1) hx hb dX7_differsFrom_25 (by decide) ?_
        refine lv_goto (tgt := 30) hx hb dX7_differsFrom_26 (by decide) ?_
        exact wr_iret hx hb hr (by decide) hK hw ⟨rfl, Or.inr rfl, fun z => absurd z (by decide), fun z => absurd ((Id_z zi zj (Or.inr q3)).mpr z) q9⟩ hlocks dX7_differsFrom_30
set_option maxHeartbeats 4000000 in
set_option maxRecDepth 100000 in
theorem k_X7_countConstants (l : Launch) (D : va_G) (ad : Nat → Nat) (cs : Nat → ClassId) (sz : Nat) (M : wM) (J : wJ) (i : Nat) (hi : i < 67) : wCi l yX7_countConstants wsX7_countConstants { frames := 1, cells := 0, slots := 0, locals := 21 } D 340 cSh ad cs [.ref (ad (3 * i))] sz M J (fun r_ u_ => u_ = (M, J) ∧ r_ = nI (ccS (sv M i))) := by
  refine wC_i (cc := cX7_countConstants) (maxL := 3) (ret := (some .int)) (by decide) rfl (Nat.le_of_ble_eq_true rfl) ?_
  intro p e s m below meth c ls A hx hb hr hml hown hts hlocks hK hA hw hl hAe
  clear hAe
  have hl : lv_has ls 3 [(0, .ref (ad (3 * i)))] := hl
  have f9 : (Cond.fieldLink RX7 9 "RangePropagator$State" "isNone" "Z").before _ s = true := hts _ (by decide +kernel)
  have iX7 : ∀ w ∈ wsX70, w ∈ wsX7_countConstants := by decide +kernel
  refine lv_iconst (v := nI 0) hx hb dX7_countConstants_0 (by decide) ?_
  refine lv_istore_n (lv' := [(1, .int (nI 0)), (0, .ref (ad (3 * i)))]) hx hb dX7_countConstants_1 rfl hl (by decide) rfl (fun ls hl => ?_)
  refine lv_iconst (v := nI 0) hx hb dX7_countConstants_2 (by decide) ?_
  refine lv_istore_n (lv' := [(2, .int (nI 0)), (1, .int (nI 0)), (0, .ref (ad (3 * i)))]) hx hb dX7_countConstants_3 rfl hl (by decide) rfl (fun ls hl => ?_)
  refine w_loop (σ := Nat) (fun k M' J' ls => lv_has ls 3 [(0, .ref (ad (3 * i))), (1, .int (nI (ccn (M (3 * i + 1)) (M (3 * i + 2)) k))), (2, .int (nI k))] ∧ J' = J ∧ k ≤ 6 ∧ M' = M ∧ (¬ M (3 * i) 0 = 0 → k = 0)) (fun k => 6 - k) (fun k M1 J1_ H locs ls hI hw ih2 => ?_) 0 ⟨lv_sub hl [2, 1, 0] rfl, rfl, by omega, rfl, fun _ => rfl⟩ hw
  obtain ⟨hl, eJ_, hk_, hI⟩ := hI
  rw [eJ_] at hw
  clear eJ_
  obtain ⟨eM_, hI⟩ := hI
  rw [eM_] at hw
  clear eM_
  refine lv_aload_n hx hb dX7_countConstants_4 rfl (lv_at hl 0 rfl) ?_
  refine wr_gi hx hb hown hK hts iX7 (ci := 6) rfl 0 (by decide) f9 rfl hw (3 * i) (by omega) (cs_S (by omega)) rfl dX7_countConstants_5 ?_
  refine lv_if_ne (tgt := 34) hx hb dX7_countConstants_8 (by decide) (fun q3 => ?_) (fun q3 => ?_)
  · skip
    refine lv_iload_n hx hb dX7_countConstants_34 rfl (lv_at hl 1 rfl) ?_
    exact wr_iret hx hb hr rfl hK hw ⟨rfl, (by rw [ccS_none q3, hI q3]; rfl)⟩ hlocks dX7_countConstants_35
  · skip
    refine lv_iload_n hx hb dX7_countConstants_11 rfl (lv_at hl 2 rfl) ?_
    refine lv_bipush (v := nI 6) hx hb dX7_countConstants_12 (by decide) ?_
    refine lv_icmp_ge (tgt := 34) hx hb dX7_countConstants_14 (by decide) (fun q4 => ?_) (fun q4 => ?_)
    · have q4n : 6 ≤ k := (nI_leI (by omega) (by omega)).mp q4
      refine lv_iload_n hx hb dX7_countConstants_34 rfl (lv_at hl 1 rfl) ?_
      exact wr_iret hx hb hr rfl hK hw ⟨rfl, (by have e : k = 6 := (by omega); subst e; rw [ccS_some q3])⟩ hlocks dX7_countConstants_35
    · have q4n : ¬ 6 ≤ k := fun z => q4 ((nI_leI (by omega) (by omega)).mpr z)
      refine lv_aload_n hx hb dX7_countConstants_17 rfl (lv_at hl 0 rfl) ?_
      refine lv_iload_n hx hb dX7_countConstants_18 rfl (lv_at hl 2 rfl) ?_
      refine wr_cVi (k := 3 * i) (ci := 6) (As := [.int (nI k)]) (rest := []) ⟨hx, hb, hml, hown, hts⟩ (cwV 1 hts gX7_countConstants_X7_isConstant rfl rfl rfl (by decide +kernel) ⟨Nat.le_of_ble_eq_true rfl, Nat.le_of_ble_eq_true rfl⟩) hK hA hw (k_X7_isConstant l D ad cs H.size M J i k (by omega) (by omega)) (by omega) (cs_S (by omega)) rfl rfl rfl hl.1 (Nat.le_of_ble_eq_true rfl) ⟨Nat.le_of_ble_eq_true rfl, Nat.le_of_ble_eq_true rfl⟩ dX7_countConstants_19 (fun r5 M6 J7 H locs h8 hw => ?_)
      obtain ⟨h8, rfl⟩ := h8
      cases h8
      refine lv_if_eq (tgt := 28) hx hb dX7_countConstants_22 (by decide) (fun q9 => ?_) (fun q9 => ?_)
      · skip
        refine lv_iinc (v := nI (k + 1)) (lv' := [(2, .int (nI (k + 1))), (0, .ref (ad (3 * i))), (1, .int (nI (ccn (M (3 * i + 1)) (M (3 * i + 2)) k)))]) hx hb dX7_countConstants_28 hl (k := 2) rfl (nI_1 _) (by decide) rfl (fun ls hl => ?_)
        refine lv_goto (tgt := 4) hx hb dX7_countConstants_31 (by decide) ?_
        exact ih2 (k + 1) M J _ _ _ (by omega) ⟨(by rw [ccn_2 (isC_0.mp q9)]; exact lv_sub hl [1, 2, 0] rfl), rfl, by omega, rfl, fun z => absurd q3 z⟩ hw
      · skip
        refine lv_iinc (v := nI (ccn (M (3 * i + 1)) (M (3 * i + 2)) k + 1)) (lv' := [(1, .int (nI (ccn (M (3 * i + 1)) (M (3 * i + 2)) k + 1))), (0, .ref (ad (3 * i))), (2, .int (nI k))]) hx hb dX7_countConstants_25 hl (k := 1) rfl (nI_1 _) (by decide) rfl (fun ls hl => ?_)
        refine lv_iinc (v := nI (k + 1)) (lv' := [(2, .int (nI (k + 1))), (1, .int (nI (ccn (M (3 * i + 1)) (M (3 * i + 2)) k + 1))), (0, .ref (ad (3 * i)))]) hx hb dX7_countConstants_28 hl (k := 2) rfl (nI_1 _) (by decide) rfl (fun ls hl => ?_)
        refine lv_goto (tgt := 4) hx hb dX7_countConstants_31 (by decide) ?_
        exact ih2 (k + 1) M J _ _ _ (by omega) ⟨(by rw [ccn_1 (Decidable.not_not.mp (fun z => q9 (isC_0.mpr z)))]; exact lv_sub hl [2, 1, 0] rfl), rfl, by omega, rfl, fun z => absurd q3 z⟩ hw
end
section
/-! ===== statements and refinements on states, pure ===== -/
abbrev aP : Type := (Nat → Int32) × (Nat → Int32)
def tn (x : Int32) : Nat := x.toNatClampNeg
theorem tn_nI {n : Nat} (h : n < 2147483648) : tn (nI n) = n := nI_clamp h
def isV (x : Int32) : Prop := x = nI (tn x) ∧ tn x < 6
theorem isV_nI {n : Nat} (h : n < 6) : isV (nI n) := by
  unfold isV; rw [tn_nI (by omega)]; exact ⟨rfl, h⟩
def oc (k y z : Int32) : Int32 := E_X1_outcome (fun _ _ => 0) k y z
def tru (x r y : Int32) : Int32 := E_X1_isTrue (fun _ _ => 0) x r y
def opp (r : Int32) : Int32 := E_X1_oppositeOfSwapped (fun _ _ => 0) r
theorem r6_upd {f : Nat → Int32} {x : Nat} {v : Int32} (h : x < 6) : r6 (upd f x v) = upd (r6 f) x v := by
  funext w
  unfold r6 upd
  by_cases q : w = x
  · subst q; simp [h]
  · simp [q]
def stC (k : Int32) (x y z : Nat) (f : aP) : aP :=
  (upd f.1 x (i_mn (i_mn (oc k (f.1 y) (f.1 z)) (oc k (f.1 y) (f.2 z))) (i_mn (oc k (f.2 y) (f.1 z)) (oc k (f.2 y) (f.2 z)))),
   upd f.2 x (i_mx (i_mx (oc k (f.1 y) (f.1 z)) (oc k (f.1 y) (f.2 z))) (i_mx (oc k (f.2 y) (f.1 z)) (oc k (f.2 y) (f.2 z)))))
/-- a statement of kind k, target x, first p, second q -/
def stA (k : Int32) (x : Nat) (p q : Int32) (f : aP) : aP := if k = nI 6 ∨ k = nI 7 then (upd f.1 x p, upd f.2 x q) else stC k x (tn p) (tn q) f
def coA (v : Nat) (a : Int32) (f : aP) : aP := if f.1 v = a then (upd f.1 v (a + nI 1), f.2) else if f.2 v = a then (f.1, upd f.2 v (a - nI 1)) else f
def koA (x y : Nat) (g : Int32) (f : aP) : aS := if f.1 x + g ≤ f.2 y then some (upd f.1 y (i_mx (f.1 y) (f.1 x + g)), upd f.2 x (i_mn (f.2 x) (f.2 y - g))) else none
def keA (x y : Nat) (f : aP) : aS := if i_mx (f.1 x) (f.1 y) ≤ i_mn (f.2 x) (f.2 y) then some (upd (upd f.1 x (i_mx (f.1 x) (f.1 y))) y (i_mx (f.1 x) (f.1 y)), upd (upd f.2 x (i_mn (f.2 x) (f.2 y))) y (i_mn (f.2 x) (f.2 y))) else none
def kuA (x y : Nat) (f : aP) : aS := if f.1 x = f.2 x then (if f.1 y = f.2 y then (if f.1 x = f.1 y then none else some f) else some (coA y (f.1 x) f)) else if f.1 y = f.2 y then some (coA x (f.1 y) f) else some f
def rfA (x : Nat) (r : Int32) (y : Nat) (f : aP) : aS := if x = y then (if tru (nI 0) r (nI 0) = 0 then none else some f) else if r = nI 0 then koA x y (nI 1) f else if r = nI 1 then koA x y (nI 0) f else if r = nI 2 then keA x y f else kuA x y f
def rf (x : Nat) (r : Int32) (y : Nat) (a : aS) : aS := a.bind (rfA x r y)
/-- M' is M but for the state i, which is a -/
def sS (M : wM) (i : Nat) (M' : wM) (a : aS) : Prop := kp M M' (stc i) ∧ bz (M' (3 * i) 0) ∧ sv M' i = a
theorem sS_pS {M M' : wM} {J : wJ} {i : Nat} {a : aS} (h : sS M i M' a) : pS M J i a (M', J) := ⟨rfl, h.1, h.2.1, h.2.2⟩
theorem sS_rfl {M : wM} {i : Nat} (h : bz (M (3 * i) 0)) : sS M i M (sv M i) := ⟨kp_refl _ _, h, rfl⟩
theorem sS_trans {M M' M'' : wM} {i : Nat} {a b : aS} (h : sS M i M' a) (g : sS M' i M'' b) : sS M i M'' b := ⟨kp_trans h.1 g.1, g.2.1, g.2.2⟩
theorem sS_none {M : wM} {i : Nat} : sS M i (wU M (3 * i) 0 (nI 1)) none := by
  refine ⟨kp_U (Or.inl rfl), ?_, ?_⟩
  · rw [wU_at, if_pos ⟨rfl, rfl⟩]; exact Or.inr rfl
  · exact sv_none (by rw [wU_at, if_pos ⟨rfl, rfl⟩]; decide)
theorem sS_some {M M' : wM} {i : Nat} {L H : Nat → Int32} (hk : kp M M' (stc i)) (h0 : M' (3 * i) 0 = 0) (hl : M' (3 * i + 1) = L) (hh : M' (3 * i + 2) = H) : sS M i M' (some (r6 L, r6 H)) := by
  refine ⟨hk, by rw [h0]; exact bz_0, ?_⟩
  rw [sv_some h0, hl, hh]
theorem sS_set0 {M : wM} {i : Nat} (h0 : M (3 * i) 0 = 0) : sS M i (wU M (3 * i) 0 (nI 0)) (sv M i) := by
  rw [sv_some h0]
  exact sS_some (kp_U (Or.inl rfl)) (by rw [wU_at, if_pos ⟨rfl, rfl⟩]; rfl) (wU_ne (by omega)) (wU_ne (by omega))
theorem kp_l {M : wM} {i v : Nat} {a : Int32} : kp M (wU M (3 * i + 1) v a) (stc i) := kp_U (Or.inr (Or.inl rfl))
theorem kp_h {M : wM} {i v : Nat} {a : Int32} : kp M (wU M (3 * i + 2) v a) (stc i) := kp_U (Or.inr (Or.inr rfl))
theorem wU0_l {M : wM} {i v : Nat} {a : Int32} : wU M (3 * i + 1) v a (3 * i) = M (3 * i) := wU_ne (by omega)
theorem wU0_h {M : wM} {i v : Nat} {a : Int32} : wU M (3 * i + 2) v a (3 * i) = M (3 * i) := wU_ne (by omega)
theorem wUl_h {M : wM} {i v : Nat} {a : Int32} : wU M (3 * i + 2) v a (3 * i + 1) = M (3 * i + 1) := wU_ne (by omega)
theorem wUh_l {M : wM} {i v : Nat} {a : Int32} : wU M (3 * i + 1) v a (3 * i + 2) = M (3 * i + 2) := wU_ne (by omega)
/-- lows, then highs of a state -/
theorem sS_lh {M : wM} {i v w : Nat} {a b : Int32} (h0 : M (3 * i) 0 = 0) : sS M i (wU (wU M (3 * i + 1) v a) (3 * i + 2) w b) (some (r6 (upd (M (3 * i + 1)) v a), r6 (upd (M (3 * i + 2)) w b))) :=
  sS_some (kp_trans kp_l kp_h) (by rw [wU0_h, wU0_l]; exact h0) (by rw [wUl_h, wU_self]) (by rw [wU_self, wUh_l])
theorem sS_hl {M : wM} {i v w : Nat} {a b : Int32} (h0 : M (3 * i) 0 = 0) : sS M i (wU (wU M (3 * i + 2) w b) (3 * i + 1) v a) (some (r6 (upd (M (3 * i + 1)) v a), r6 (upd (M (3 * i + 2)) w b))) :=
  sS_some (kp_trans kp_h kp_l) (by rw [wU0_l, wU0_h]; exact h0) (by rw [wU_self, wUl_h]) (by rw [wUh_l, wU_self])
theorem sS_set {M : wM} {i v : Nat} {a b : Int32} (hv : v < 6) (h0 : M (3 * i) 0 = 0) : sS M i (F_X7_setRange M i v a b) ((sv M i).map (fun f => (upd f.1 v a, upd f.2 v b))) := by
  rw [sv_some h0]
  have h := sS_lh (i := i) (v := v) (w := v) (a := a) (b := b) h0
  rw [r6_upd hv, r6_upd hv] at h
  exact h
theorem set_0 {M : wM} {i v : Nat} {a b : Int32} : F_X7_setRange M i v a b (3 * i) = M (3 * i) := by unfold F_X7_setRange; rw [wU0_h, wU0_l]
theorem assign_eq {M : wM} {i x y z : Nat} {k : Int32} (hx : x < 6) (hy : y < 6) (hz : z < 6) : F_X7_assign M i k x y z = wU (wU M (3 * i + 1) x (i_mn (i_mn (oc k (M (3 * i + 1) y) (M (3 * i + 1) z)) (oc k (M (3 * i + 1) y) (M (3 * i + 2) z))) (i_mn (oc k (M (3 * i + 2) y) (M (3 * i + 1) z)) (oc k (M (3 * i + 2) y) (M (3 * i + 2) z))))) (3 * i + 2) x (i_mx (i_mx (oc k (M (3 * i + 1) y) (M (3 * i + 1) z)) (oc k (M (3 * i + 1) y) (M (3 * i + 2) z))) (i_mx (oc k (M (3 * i + 2) y) (M (3 * i + 1) z)) (oc k (M (3 * i + 2) y) (M (3 * i + 2) z)))) := rfl
theorem sS_assign {M : wM} {i x y z : Nat} {k : Int32} (hx : x < 6) (hy : y < 6) (hz : z < 6) (h0 : M (3 * i) 0 = 0) : sS M i (F_X7_assign M i k x y z) ((sv M i).map (stC k x y z)) := by
  rw [sv_some h0, assign_eq hx hy hz]
  have h := sS_lh (i := i) (v := x) (w := x) (a := i_mn (i_mn (oc k (M (3 * i + 1) y) (M (3 * i + 1) z)) (oc k (M (3 * i + 1) y) (M (3 * i + 2) z))) (i_mn (oc k (M (3 * i + 2) y) (M (3 * i + 1) z)) (oc k (M (3 * i + 2) y) (M (3 * i + 2) z)))) (b := i_mx (i_mx (oc k (M (3 * i + 1) y) (M (3 * i + 1) z)) (oc k (M (3 * i + 1) y) (M (3 * i + 2) z))) (i_mx (oc k (M (3 * i + 2) y) (M (3 * i + 1) z)) (oc k (M (3 * i + 2) y) (M (3 * i + 2) z)))) h0
  rw [r6_upd hx, r6_upd hx] at h
  simp only [Option.map_some, stC, r6_lt hy, r6_lt hz]
  exact h
theorem assign_0 {M : wM} {i x y z : Nat} {k : Int32} (hx : x < 6) (hy : y < 6) (hz : z < 6) : F_X7_assign M i k x y z (3 * i) = M (3 * i) := by rw [assign_eq hx hy hz, wU0_h, wU0_l]
theorem sS_ko {M : wM} {i x y : Nat} {g : Int32} (hx : x < 6) (hy : y < 6) (h0 : M (3 * i) 0 = 0) : sS M i (F_X7_keepOrdered M i x y g) ((sv M i).bind (koA x y g)) := by
  rw [sv_some h0]
  unfold F_X7_keepOrdered
  simp only [Option.bind_some, koA, r6_lt hx, r6_lt hy]
  by_cases h : M (3 * i + 1) x + g ≤ M (3 * i + 2) y
  · rw [if_pos h, if_pos h, wUl_h]
    have q := sS_hl (i := i) (v := y) (w := x) (a := i_mx (M (3 * i + 1) y) (M (3 * i + 1) x + g)) (b := i_mn (M (3 * i + 2) x) (M (3 * i + 2) y - g)) h0
    rw [r6_upd hx, r6_upd hy] at q
    exact q
  · rw [if_neg h, if_neg h]; exact sS_none
theorem sS_ke {M : wM} {i x y : Nat} (hx : x < 6) (hy : y < 6) (h0 : M (3 * i) 0 = 0) : sS M i (F_X7_keepEqual M i x y) ((sv M i).bind (keA x y)) := by
  rw [sv_some h0]
  unfold F_X7_keepEqual
  simp only [Option.bind_some, keA, r6_lt hx, r6_lt hy]
  by_cases h : i_mx (M (3 * i + 1) x) (M (3 * i + 1) y) ≤ i_mn (M (3 * i + 2) x) (M (3 * i + 2) y)
  · rw [if_pos h, if_pos h]
    have q1 := sS_set (i := i) (v := x) (a := i_mx (M (3 * i + 1) x) (M (3 * i + 1) y)) (b := i_mn (M (3 * i + 2) x) (M (3 * i + 2) y)) hx h0
    have q2 := sS_set (M := F_X7_setRange M i x (i_mx (M (3 * i + 1) x) (M (3 * i + 1) y)) (i_mn (M (3 * i + 2) x) (M (3 * i + 2) y))) (i := i) (v := y) (a := i_mx (M (3 * i + 1) x) (M (3 * i + 1) y)) (b := i_mn (M (3 * i + 2) x) (M (3 * i + 2) y)) hy (by rw [set_0]; exact h0)
    rw [q1.2.2, sv_some h0] at q2
    exact sS_trans q1 q2
  · rw [if_neg h, if_neg h]; exact sS_none
theorem sS_l {M : wM} {i v : Nat} {a : Int32} (h0 : M (3 * i) 0 = 0) : sS M i (wU M (3 * i + 1) v a) (some (r6 (upd (M (3 * i + 1)) v a), r6 (M (3 * i + 2)))) :=
  sS_some kp_l (by rw [wU0_l]; exact h0) wU_self wUh_l
theorem sS_h {M : wM} {i v : Nat} {a : Int32} (h0 : M (3 * i) 0 = 0) : sS M i (wU M (3 * i + 2) v a) (some (r6 (M (3 * i + 1)), r6 (upd (M (3 * i + 2)) v a))) :=
  sS_some kp_h (by rw [wU0_h]; exact h0) wUl_h wU_self
theorem sS_co {M : wM} {i v : Nat} {a : Int32} (hv : v < 6) (h0 : M (3 * i) 0 = 0) : sS M i (F_X7_cutOff M i v a) (some (coA v a (r6 (M (3 * i + 1)), r6 (M (3 * i + 2))))) := by
  unfold F_X7_cutOff
  simp only [coA, r6_lt hv]
  by_cases h : M (3 * i + 1) v = a
  · rw [if_pos h, if_pos h, ← r6_upd hv]; exact sS_l h0
  · rw [if_neg h, if_neg h]
    by_cases g : M (3 * i + 2) v = a
    · rw [if_pos g, if_pos g, ← r6_upd hv]; exact sS_h h0
    · rw [if_neg g, if_neg g, ← sv_some h0]; exact sS_rfl (by rw [h0]; exact bz_0)
theorem sS_ku {M : wM} {i x y : Nat} (hx : x < 6) (hy : y < 6) (h0 : M (3 * i) 0 = 0) : sS M i (F_X7_keepUnequal M i x y) ((sv M i).bind (kuA x y)) := by
  have e := sv_some h0
  rw [e]
  unfold F_X7_keepUnequal
  simp only [Option.bind_some, kuA, r6_lt hx, r6_lt hy]
  by_cases p : M (3 * i + 1) x = M (3 * i + 2) x
  · have p' : ¬ E_X7_isConstant M i x = 0 := fun z => isC_0.mp z p
    rw [if_neg p', if_pos p]
    by_cases q : M (3 * i + 1) y = M (3 * i + 2) y
    · have q' : ¬ E_X7_isConstant M i y = 0 := fun z => isC_0.mp z q
      rw [if_neg q', if_pos q]
      by_cases t : M (3 * i + 1) x = M (3 * i + 1) y
      · rw [if_pos t, if_pos t]; exact sS_none
      · rw [if_neg t, if_neg t, ← e]; exact sS_set0 h0
    · rw [if_pos (isC_0.mpr q), if_neg q, if_neg p']
      exact sS_co hy h0
  · rw [if_pos (isC_0.mpr p), if_neg p, if_pos (isC_0.mpr p)]
    by_cases q : M (3 * i + 1) y = M (3 * i + 2) y
    · rw [if_neg (fun z => isC_0.mp z q), if_pos q]
      exact sS_co hx h0
    · rw [if_pos (isC_0.mpr q), if_neg q, ← e]
      exact sS_rfl (by rw [h0]; exact bz_0)
theorem sS_rf {M : wM} {i x y : Nat} {r : Int32} (hx : x < 6) (hy : y < 6) (h0 : M (3 * i) 0 = 0) : sS M i (F_X7_refine M i x r y) (rf x r y (sv M i)) := by
  have e := sv_some h0
  unfold F_X7_refine rf
  by_cases h : x = y
  · rw [if_pos (by rw [h]), e]
    simp only [Option.bind_some, rfA, if_pos h]
    by_cases t : E_X1_isTrue M (nI 0) r (nI 0) = 0
    · rw [if_pos t, if_pos (show tru (nI 0) r (nI 0) = 0 from t)]; exact sS_none
    · rw [if_neg t, if_neg (show ¬ tru (nI 0) r (nI 0) = 0 from t), ← e]; exact sS_set0 h0
  · rw [if_neg (fun z => h ((nI_eq (by omega) (by omega)).mp z))]
    by_cases r0 : r = nI 0
    · rw [if_pos r0, e]; simp only [Option.bind_some, rfA, if_neg h, if_pos r0]
      have q := sS_ko (M := M) (i := i) (g := nI 1) hx hy h0
      rw [e] at q; exact q
    · rw [if_neg r0]
      by_cases r1 : r = nI 1
      · rw [if_pos r1, e]; simp only [Option.bind_some, rfA, if_neg h, if_neg r0, if_pos r1]
        have q := sS_ko (M := M) (i := i) (g := nI 0) hx hy h0
        rw [e] at q; exact q
      · rw [if_neg r1]
        by_cases r2 : r = nI 2
        · rw [if_pos r2, e]; simp only [Option.bind_some, rfA, if_neg h, if_neg r0, if_neg r1, if_pos r2]
          have q := sS_ke (M := M) (i := i) hx hy h0
          rw [e] at q; exact q
        · rw [if_neg r2, e]; simp only [Option.bind_some, rfA, if_neg h, if_neg r0, if_neg r1, if_neg r2]
          have q := sS_ku (M := M) (i := i) hx hy h0
          rw [e] at q; exact q
/-- a block's statements are such as they may be -/
def stOK (M : wM) (b a : Nat) : Prop := isV (M (201 + 6 * b + 2) a) ∧ (¬ (M (201 + 6 * b + 1) a = nI 6 ∨ M (201 + 6 * b + 1) a = nI 7) → isV (M (201 + 6 * b + 3) a) ∧ isV (M (201 + 6 * b + 4) a))
def blOK (M : wM) (b : Nat) : Prop := M (201 + 6 * b) 0 = nI (tn (M (201 + 6 * b) 0)) ∧ tn (M (201 + 6 * b) 0) ≤ 8 ∧ ∀ a, a < tn (M (201 + 6 * b) 0) → stOK M b a
/-- the first n statements of a block, on a state -/
def apN (M : wM) (b : Nat) : Nat → aS → aS
  | 0, a => a
  | n + 1, a => (apN M b n a).map (stA (M (201 + 6 * b + 1) n) (tn (M (201 + 6 * b + 2) n)) (M (201 + 6 * b + 3) n) (M (201 + 6 * b + 4) n))
def apB (M : wM) (b : Nat) (a : aS) : aS := apN M b (tn (M (201 + 6 * b) 0)) a
def Iap (M : wM) (b i k : Nat) (M1 : wM) : Prop := kp M M1 (stc i) ∧ M1 (3 * i) 0 = 0 ∧ sv M1 i = apN M b k (sv M i)
theorem Iap_set {M M1 : wM} {b i k : Nat} (h : Iap M b i k M1) (hs : stOK M b k) (hk : M (201 + 6 * b + 1) k = nI 6 ∨ M (201 + 6 * b + 1) k = nI 7) : Iap M b i (k + 1) (F_X7_setRange M1 i (tn (M (201 + 6 * b + 2) k)) (M (201 + 6 * b + 3) k) (M (201 + 6 * b + 4) k)) := by
  obtain ⟨h1, h2, h3⟩ := h
  have q := sS_set (M := M1) (i := i) (v := tn (M (201 + 6 * b + 2) k)) (a := M (201 + 6 * b + 3) k) (b := M (201 + 6 * b + 4) k) hs.1.2 h2
  refine ⟨kp_trans h1 q.1, by rw [set_0]; exact h2, ?_⟩
  rw [q.2.2, h3]
  have e : stA (M (201 + 6 * b + 1) k) (tn (M (201 + 6 * b + 2) k)) (M (201 + 6 * b + 3) k) (M (201 + 6 * b + 4) k) = fun f => (upd f.1 (tn (M (201 + 6 * b + 2) k)) (M (201 + 6 * b + 3) k), upd f.2 (tn (M (201 + 6 * b + 2) k)) (M (201 + 6 * b + 4) k)) := by
    funext f; unfold stA; rw [if_pos hk]
  show _ = (apN M b k (sv M i)).map _
  rw [e]
theorem Iap_as {M M1 : wM} {b i k : Nat} (h : Iap M b i k M1) (hs : stOK M b k) (hk : ¬ (M (201 + 6 * b + 1) k = nI 6 ∨ M (201 + 6 * b + 1) k = nI 7)) : Iap M b i (k + 1) (F_X7_assign M1 i (M (201 + 6 * b + 1) k) (tn (M (201 + 6 * b + 2) k)) (tn (M (201 + 6 * b + 3) k)) (tn (M (201 + 6 * b + 4) k))) := by
  obtain ⟨h1, h2, h3⟩ := h
  have q := sS_assign (M := M1) (i := i) (k := M (201 + 6 * b + 1) k) hs.1.2 (hs.2 hk).1.2 (hs.2 hk).2.2 h2
  refine ⟨kp_trans h1 q.1, by rw [assign_0 hs.1.2 (hs.2 hk).1.2 (hs.2 hk).2.2]; exact h2, ?_⟩
  rw [q.2.2, h3]
  have e : stA (M (201 + 6 * b + 1) k) (tn (M (201 + 6 * b + 2) k)) (M (201 + 6 * b + 3) k) (M (201 + 6 * b + 4) k) = stC (M (201 + 6 * b + 1) k) (tn (M (201 + 6 * b + 2) k)) (tn (M (201 + 6 * b + 3) k)) (tn (M (201 + 6 * b + 4) k)) := by
    funext f; unfold stA; rw [if_neg hk]
  show _ = (apN M b k (sv M i)).map _
  rw [e]
theorem apN_none (M : wM) (b : Nat) : ∀ n, apN M b n none = none
  | 0 => rfl
  | n + 1 => by show (apN M b n none).map _ = none; rw [apN_none M b n]; rfl
/-- an edge of a block, on the state behind its statements -/
def edOK (M : wM) (b : Nat) : Prop := M (201 + 6 * b) 5 = nI (tn (M (201 + 6 * b) 5)) ∧ tn (M (201 + 6 * b) 5) ≤ 2 ∧ (2 ≤ tn (M (201 + 6 * b) 5) → isV (M (201 + 6 * b) 7) ∧ isV (M (201 + 6 * b) 8))
def edB (M : wM) (b e : Nat) (a : aS) : aS := if tn (M (201 + 6 * b) 5) < 2 then a else if e = 0 then rf (tn (M (201 + 6 * b) 7)) (M (201 + 6 * b) 9) (tn (M (201 + 6 * b) 8)) a else rf (tn (M (201 + 6 * b) 8)) (opp (M (201 + 6 * b) 9)) (tn (M (201 + 6 * b) 7)) a
theorem edB_none {M : wM} {b e : Nat} : edB M b e none = none := by
  unfold edB
  by_cases h : tn (M (201 + 6 * b) 5) < 2
  · rw [if_pos h]
  · rw [if_neg h]
    by_cases g : e = 0
    · rw [if_pos g]; rfl
    · rw [if_neg g]; rfl
end
section
/-! Block: laid by wip/gen/specs4.py -/
theorem p_ap1 {M : wM} {J : wJ} {b i : Nat} (zi : bz (M (3 * i) 0)) (h : ¬ M (3 * i) 0 = 0) : pS M J i (apB M b (sv M i)) (M, J) := ⟨rfl, kp_refl _ _, zi, by rw [sv_none h]; exact (apN_none M b _).symm⟩
theorem p_ap2 {M M1 : wM} {J : wJ} {b i : Nat} (h : Iap M b i (tn (M (201 + 6 * b) 0)) M1) : pS M J i (apB M b (sv M i)) (M1, J) := ⟨rfl, h.1, by show bz (M1 (3 * i) 0); rw [h.2.1]; exact bz_0, h.2.2⟩
theorem p_ed1 {M : wM} {J : wJ} {b i e : Nat} (zi : bz (M (3 * i) 0)) (h : ¬ M (3 * i) 0 = 0) : pS M J i (edB M b e (sv M i)) (M, J) := ⟨rfl, kp_refl _ _, zi, by show sv M i = _; rw [sv_none h, edB_none]⟩
theorem p_ed2 {M : wM} {J : wJ} {b i e : Nat} (zi : bz (M (3 * i) 0)) (h : tn (M (201 + 6 * b) 5) < 2) : pS M J i (edB M b e (sv M i)) (M, J) := ⟨rfl, kp_refl _ _, zi, by unfold edB; rw [if_pos h]⟩
theorem p_ed3 {M : wM} {J : wJ} {b i e : Nat} (h0 : M (3 * i) 0 = 0) (hE : edOK M b) (h : 2 ≤ tn (M (201 + 6 * b) 5)) (he : e = 0) : pS M J i (edB M b e (sv M i)) (F_X7_refine M i (tn (M (201 + 6 * b) 7)) (M (201 + 6 * b) 9) (tn (M (201 + 6 * b) 8)), J) := by
  unfold edB
  rw [if_neg (by omega), if_pos he]
  exact sS_pS (sS_rf (hE.2.2 h).1.2 (hE.2.2 h).2.2 h0)
theorem p_ed4 {M : wM} {J : wJ} {b i e : Nat} (h0 : M (3 * i) 0 = 0) (hE : edOK M b) (h : 2 ≤ tn (M (201 + 6 * b) 5)) (he : ¬ e = 0) : pS M J i (edB M b e (sv M i)) (F_X7_refine M i (tn (M (201 + 6 * b) 8)) (E_X1_oppositeOfSwapped M (M (201 + 6 * b) 9)) (tn (M (201 + 6 * b) 7)), J) := by
  unfold edB
  rw [if_neg (by omega), if_neg he]
  exact sS_pS (sS_rf (hE.2.2 h).2.2 (hE.2.2 h).1.2 h0)
theorem eN0 {e : Nat} (h : e < 2147483648) (q : nI e = 0) : e = 0 := (nI_eq h (by decide)).mp (q.trans nI_0.symm)
def F_X2_append (M : wM) (b : Nat) (n : Nat) (k : Int32) (x : Int32) (p1 : Int32) (p2 : Int32) : wM := (wU (wU (wU (wU (wU M (201 + 6 * b + 1) n k) (201 + 6 * b + 2) n x) (201 + 6 * b + 3) n p1) (201 + 6 * b + 4) n p2) (201 + 6 * b) 0 (nI (n + 1)))
def E_X2_append (M : wM) (b : Nat) (n : Nat) (k : Int32) (x : Int32) (p1 : Int32) (p2 : Int32) : Int32 := (wU (wU (wU (wU (wU M (201 + 6 * b + 1) n k) (201 + 6 * b + 2) n x) (201 + 6 * b + 3) n p1) (201 + 6 * b + 4) n p2) (201 + 6 * b) 0 (nI (n + 1))) (201 + 6 * b) 0
set_option maxHeartbeats 4000000 in
set_option maxRecDepth 100000 in
theorem k_X2_append (l : Launch) (D : va_G) (ad : Nat → Nat) (cs : Nat → ClassId) (sz : Nat) (M : wM) (J : wJ) (b : Nat) (n : Nat) (k : Int32) (x : Int32) (p1 : Int32) (p2 : Int32) (hb16 : b < 16) (hn : M (201 + 6 * b) 0 = nI n) (hn8 : n < 8) : wCi l yX2_append wsX2_append { frames := 0, cells := 0, slots := 0, locals := 0 } D 340 cSh ad cs [.ref (ad (201 + 6 * b)), .int k, .int x, .int p1, .int p2] sz M J (fun r_ u_ => u_ = (F_X2_append M b n k x p1 p2, J) ∧ r_ = E_X2_append M b n k x p1 p2) := by
  refine wC_i (cc := cX2_append) (maxL := 6) (ret := (some .int)) (by decide) rfl (Nat.le_of_ble_eq_true rfl) ?_
  intro p e s m below meth c ls A hx hb hr hml hown hts hlocks hK hA hw hl hAe
  clear hAe
  have hl : lv_has ls 6 [(0, .ref (ad (201 + 6 * b))), (1, .int k), (2, .int x), (3, .int p1), (4, .int p2)] := hl
  have f9 : (Cond.fieldLink RX2 9 "RangePropagator$Block" "statementCount" "I").before _ s = true := hts _ (by decide +kernel)
  have iX2 : ∀ w ∈ wsX20, w ∈ wsX2_append := by decide +kernel
  have f15 : (Cond.fieldLink RX2 15 "RangePropagator$Block" "kinds" "[I").before _ s = true := hts _ (by decide +kernel)
  have f19 : (Cond.fieldLink RX2 19 "RangePropagator$Block" "targets" "[I").before _ s = true := hts _ (by decide +kernel)
  have f22 : (Cond.fieldLink RX2 22 "RangePropagator$Block" "firsts" "[I").before _ s = true := hts _ (by decide +kernel)
  have f25 : (Cond.fieldLink RX2 25 "RangePropagator$Block" "seconds" "[I").before _ s = true := hts _ (by decide +kernel)
  refine lv_aload_n hx hb dX2_append_0 rfl (lv_at hl 0 rfl) ?_
  refine wr_gi hx hb hown hK hts iX2 (ci := 1) rfl 0 (by decide) f9 rfl hw (201 + 6 * b) (by omega) (cs_B (by omega)) rfl dX2_append_1 ?_
  rw [show M (201 + 6 * b) 0 = nI n from hn]
  refine lv_istore (lv' := [(5, .int (nI n)), (0, .ref (ad (201 + 6 * b))), (1, .int k), (2, .int x), (3, .int p1), (4, .int p2)]) hx hb dX2_append_4 hl (by decide) rfl (fun ls hl => ?_)
  refine lv_iload hx hb dX2_append_6 (lv_at hl 0 rfl) ?_
  refine lv_bipush (v := nI 8) hx hb dX2_append_8 (by decide) ?_
  refine lv_icmp_ge (tgt := 54) hx hb dX2_append_10 (by decide) (fun q1 => ?_) (fun q1 => ?_)
  · have q1n : 8 ≤ n := (nI_leI (by omega) (by omega)).mp q1
    exfalso; omega
  · have q1n : ¬ 8 ≤ n := fun z => q1 ((nI_leI (by omega) (by omega)).mpr z)
    refine lv_aload_n hx hb dX2_append_13 rfl (lv_at hl 1 rfl) ?_
    refine wr_gr hx hb hown hK hts iX2 (ci := 1) rfl 1 (by decide) f15 rfl hw (201 + 6 * b) (by omega) (201 + 6 * b + 1) (cs_B (by omega)) rfl dX2_append_14 ?_
    refine lv_iload hx hb dX2_append_17 (lv_at hl 0 rfl) ?_
    refine lv_iload_n hx hb dX2_append_19 rfl (lv_at hl 2 rfl) ?_
    refine wr_istN hx hb hK hw (201 + 6 * b + 1) (by omega) (cs_B1 (by omega)) (by decide) n rfl (by omega) dX2_append_20 (fun H locs hw => ?_)
    refine lv_aload_n hx hb dX2_append_21 rfl (lv_at hl 1 rfl) ?_
    refine wr_gr hx hb hown hK hts iX2 (ci := 1) rfl 2 (by decide) f19 rfl hw (201 + 6 * b) (by omega) (201 + 6 * b + 2) (cs_B (by omega)) rfl dX2_append_22 ?_
    refine lv_iload hx hb dX2_append_25 (lv_at hl 0 rfl) ?_
    refine lv_iload_n hx hb dX2_append_27 rfl (lv_at hl 3 rfl) ?_
    refine wr_istN hx hb hK hw (201 + 6 * b + 2) (by omega) (cs_B2 (by omega)) (by decide) n rfl (by omega) dX2_append_28 (fun H locs hw => ?_)
    refine lv_aload_n hx hb dX2_append_29 rfl (lv_at hl 1 rfl) ?_
    refine wr_gr hx hb hown hK hts iX2 (ci := 1) rfl 3 (by decide) f22 rfl hw (201 + 6 * b) (by omega) (201 + 6 * b + 3) (cs_B (by omega)) rfl dX2_append_30 ?_
    refine lv_iload hx hb dX2_append_33 (lv_at hl 0 rfl) ?_
    refine lv_iload_n hx hb dX2_append_35 rfl (lv_at hl 4 rfl) ?_
    refine wr_istN hx hb hK hw (201 + 6 * b + 3) (by omega) (cs_B3 (by omega)) (by decide) n rfl (by omega) dX2_append_36 (fun H locs hw => ?_)
    refine lv_aload_n hx hb dX2_append_37 rfl (lv_at hl 1 rfl) ?_
    refine wr_gr hx hb hown hK hts iX2 (ci := 1) rfl 4 (by decide) f25 rfl hw (201 + 6 * b) (by omega) (201 + 6 * b + 4) (cs_B (by omega)) rfl dX2_append_38 ?_
    refine lv_iload hx hb dX2_append_41 (lv_at hl 0 rfl) ?_
    refine lv_iload hx hb dX2_append_43 (lv_at hl 5 rfl) ?_
    refine wr_istN hx hb hK hw (201 + 6 * b + 4) (by omega) (cs_B4 (by omega)) (by decide) n rfl (by omega) dX2_append_45 (fun H locs hw => ?_)
    refine lv_aload_n hx hb dX2_append_46 rfl (lv_at hl 1 rfl) ?_
    refine lv_iload hx hb dX2_append_47 (lv_at hl 0 rfl) ?_
    refine lv_iconst (v := nI 1) hx hb dX2_append_49 (by decide) ?_
    refine lv_iaddN hx hb dX2_append_50 ?_
    refine wr_pi hx hb hown hK hts iX2 tyX2_ok nmX2 (ci := 1) rfl 0 (by decide) f9 rfl rfl hw (201 + 6 * b) (by omega) (cs_B (by omega)) rfl rfl rfl dX2_append_51 (fun H locs hw => ?_)
    refine lv_aload_n hx hb dX2_append_54 rfl (lv_at hl 1 rfl) ?_
    refine wr_gi hx hb hown hK hts iX2 (ci := 1) rfl 0 (by decide) f9 rfl hw (201 + 6 * b) (by omega) (cs_B (by omega)) rfl dX2_append_55 ?_
    exact wr_iret hx hb hr rfl hK hw ⟨(by show (_, _) = (_, _); unfold F_X2_append; rfl), (by unfold E_X2_append; rfl)⟩ hlocks dX2_append_58
def F_X2_endWithJump (M : wM) (b : Nat) (a : Int32) : wM := (wU (wU M (201 + 6 * b) 5 (nI 1)) (201 + 6 * b + 5) 0 a)
set_option maxHeartbeats 4000000 in
set_option maxRecDepth 100000 in
theorem k_X2_endWithJump (l : Launch) (D : va_G) (ad : Nat → Nat) (cs : Nat → ClassId) (sz : Nat) (M : wM) (J : wJ) (b : Nat) (a : Int32) (hb16 : b < 16) : wCv l yX2_endWithJump wsX2_endWithJump { frames := 0, cells := 0, slots := 0, locals := 0 } D 340 cSh ad cs [.ref (ad (201 + 6 * b)), .int a] sz M J (fun u_ => u_ = (F_X2_endWithJump M b a, J)) := by
  refine wC_v (cc := cX2_endWithJump) (maxL := 2) (ret := none) (by decide) rfl (Nat.le_of_ble_eq_true rfl) ?_
  intro p e s m below meth c ls A hx hb hr hml hown hts hlocks hK hA hw hl hAe
  clear hAe
  have hl : lv_has ls 2 [(0, .ref (ad (201 + 6 * b))), (1, .int a)] := hl
  have f28 : (Cond.fieldLink RX2 28 "RangePropagator$Block" "edgeCount" "I").before _ s = true := hts _ (by decide +kernel)
  have iX2 : ∀ w ∈ wsX20, w ∈ wsX2_endWithJump := by decide +kernel
  have f31 : (Cond.fieldLink RX2 31 "RangePropagator$Block" "followers" "[I").before _ s = true := hts _ (by decide +kernel)
  refine lv_aload_n hx hb dX2_endWithJump_0 rfl (lv_at hl 0 rfl) ?_
  refine lv_iconst (v := nI 1) hx hb dX2_endWithJump_1 (by decide) ?_
  refine wr_pi hx hb hown hK hts iX2 tyX2_ok nmX2 (ci := 1) rfl 5 (by decide) f28 rfl rfl hw (201 + 6 * b) (by omega) (cs_B (by omega)) rfl rfl rfl dX2_endWithJump_2 (fun H locs hw => ?_)
  refine lv_aload_n hx hb dX2_endWithJump_5 rfl (lv_at hl 0 rfl) ?_
  refine wr_gr hx hb hown hK hts iX2 (ci := 1) rfl 6 (by decide) f31 rfl hw (201 + 6 * b) (by omega) (201 + 6 * b + 5) (cs_B (by omega)) rfl dX2_endWithJump_6 ?_
  refine lv_iconst (v := nI 0) hx hb dX2_endWithJump_9 (by decide) ?_
  refine lv_iload_n hx hb dX2_endWithJump_10 rfl (lv_at hl 1 rfl) ?_
  refine wr_istN hx hb hK hw (201 + 6 * b + 5) (by omega) (cs_B5 (by omega)) (by decide) 0 rfl (by omega) dX2_endWithJump_11 (fun H locs hw => ?_)
  exact wr_vret hx hb hr hK hw (by show (_, _) = (_, _); unfold F_X2_endWithJump; rfl) hlocks dX2_endWithJump_12
def F_X2_endWithBranch (M : wM) (b : Nat) (x : Int32) (r : Int32) (y : Int32) (a : Int32) (d : Int32) : wM := (wU (wU (wU (wU (wU (wU M (201 + 6 * b) 5 (nI 2)) (201 + 6 * b) 7 x) (201 + 6 * b) 9 r) (201 + 6 * b) 8 y) (201 + 6 * b + 5) 0 a) (201 + 6 * b + 5) 1 d)
set_option maxHeartbeats 4000000 in
set_option maxRecDepth 100000 in
theorem k_X2_endWithBranch (l : Launch) (D : va_G) (ad : Nat → Nat) (cs : Nat → ClassId) (sz : Nat) (M : wM) (J : wJ) (b : Nat) (x : Int32) (r : Int32) (y : Int32) (a : Int32) (d : Int32) (hb16 : b < 16) : wCv l yX2_endWithBranch wsX2_endWithBranch { frames := 0, cells := 0, slots := 0, locals := 0 } D 340 cSh ad cs [.ref (ad (201 + 6 * b)), .int x, .int r, .int y, .int a, .int d] sz M J (fun u_ => u_ = (F_X2_endWithBranch M b x r y a d, J)) := by
  refine wC_v (cc := cX2_endWithBranch) (maxL := 6) (ret := none) (by decide) rfl (Nat.le_of_ble_eq_true rfl) ?_
  intro p e s m below meth c ls A hx hb hr hml hown hts hlocks hK hA hw hl hAe
  clear hAe
  have hl : lv_has ls 6 [(0, .ref (ad (201 + 6 * b))), (1, .int x), (2, .int r), (3, .int y), (4, .int a), (5, .int d)] := hl
  have f28 : (Cond.fieldLink RX2 28 "RangePropagator$Block" "edgeCount" "I").before _ s = true := hts _ (by decide +kernel)
  have iX2 : ∀ w ∈ wsX20, w ∈ wsX2_endWithBranch := by decide +kernel
  have f34 : (Cond.fieldLink RX2 34 "RangePropagator$Block" "branchX" "I").before _ s = true := hts _ (by decide +kernel)
  have f40 : (Cond.fieldLink RX2 40 "RangePropagator$Block" "relation" "I").before _ s = true := hts _ (by decide +kernel)
  have f37 : (Cond.fieldLink RX2 37 "RangePropagator$Block" "branchY" "I").before _ s = true := hts _ (by decide +kernel)
  have f31 : (Cond.fieldLink RX2 31 "RangePropagator$Block" "followers" "[I").before _ s = true := hts _ (by decide +kernel)
  refine lv_aload_n hx hb dX2_endWithBranch_0 rfl (lv_at hl 0 rfl) ?_
  refine lv_iconst (v := nI 2) hx hb dX2_endWithBranch_1 (by decide) ?_
  refine wr_pi hx hb hown hK hts iX2 tyX2_ok nmX2 (ci := 1) rfl 5 (by decide) f28 rfl rfl hw (201 + 6 * b) (by omega) (cs_B (by omega)) rfl rfl rfl dX2_endWithBranch_2 (fun H locs hw => ?_)
  refine lv_aload_n hx hb dX2_endWithBranch_5 rfl (lv_at hl 0 rfl) ?_
  refine lv_iload_n hx hb dX2_endWithBranch_6 rfl (lv_at hl 1 rfl) ?_
  refine wr_pi hx hb hown hK hts iX2 tyX2_ok nmX2 (ci := 1) rfl 7 (by decide) f34 rfl rfl hw (201 + 6 * b) (by omega) (cs_B (by omega)) rfl rfl rfl dX2_endWithBranch_7 (fun H locs hw => ?_)
  refine lv_aload_n hx hb dX2_endWithBranch_10 rfl (lv_at hl 0 rfl) ?_
  refine lv_iload_n hx hb dX2_endWithBranch_11 rfl (lv_at hl 2 rfl) ?_
  refine wr_pi hx hb hown hK hts iX2 tyX2_ok nmX2 (ci := 1) rfl 9 (by decide) f40 rfl rfl hw (201 + 6 * b) (by omega) (cs_B (by omega)) rfl rfl rfl dX2_endWithBranch_12 (fun H locs hw => ?_)
  refine lv_aload_n hx hb dX2_endWithBranch_15 rfl (lv_at hl 0 rfl) ?_
  refine lv_iload_n hx hb dX2_endWithBranch_16 rfl (lv_at hl 3 rfl) ?_
  refine wr_pi hx hb hown hK hts iX2 tyX2_ok nmX2 (ci := 1) rfl 8 (by decide) f37 rfl rfl hw (201 + 6 * b) (by omega) (cs_B (by omega)) rfl rfl rfl dX2_endWithBranch_17 (fun H locs hw => ?_)
  refine lv_aload_n hx hb dX2_endWithBranch_20 rfl (lv_at hl 0 rfl) ?_
  refine wr_gr hx hb hown hK hts iX2 (ci := 1) rfl 6 (by decide) f31 rfl hw (201 + 6 * b) (by omega) (201 + 6 * b + 5) (cs_B (by omega)) rfl dX2_endWithBranch_21 ?_
  refine lv_iconst (v := nI 0) hx hb dX2_endWithBranch_24 (by decide) ?_
  refine lv_iload hx hb dX2_endWithBranch_25 (lv_at hl 4 rfl) ?_
  refine wr_istN hx hb hK hw (201 + 6 * b + 5) (by omega) (cs_B5 (by omega)) (by decide) 0 rfl (by omega) dX2_endWithBranch_27 (fun H locs hw => ?_)
  refine lv_aload_n hx hb dX2_endWithBranch_28 rfl (lv_at hl 0 rfl) ?_
  refine wr_gr hx hb hown hK hts iX2 (ci := 1) rfl 6 (by decide) f31 rfl hw (201 + 6 * b) (by omega) (201 + 6 * b + 5) (cs_B (by omega)) rfl dX2_endWithBranch_29 ?_
  refine lv_iconst (v := nI 1) hx hb dX2_endWithBranch_32 (by decide) ?_
  refine lv_iload hx hb dX2_endWithBranch_33 (lv_at hl 5 rfl) ?_
  refine wr_istN hx hb hK hw (201 + 6 * b + 5) (by omega) (cs_B5 (by omega)) (by decide) 1 rfl (by omega) dX2_endWithBranch_35 (fun H locs hw => ?_)
  exact wr_vret hx hb hr hK hw (by show (_, _) = (_, _); unfold F_X2_endWithBranch; rfl) hlocks dX2_endWithBranch_36
def F_X2_makeEmpty (M : wM) (b : Nat) : wM := (wU (wU M (201 + 6 * b) 0 (nI 0)) (201 + 6 * b) 5 (nI 0))
set_option maxHeartbeats 4000000 in
set_option maxRecDepth 100000 in
theorem k_X2_makeEmpty (l : Launch) (D : va_G) (ad : Nat → Nat) (cs : Nat → ClassId) (sz : Nat) (M : wM) (J : wJ) (b : Nat) (hb16 : b < 16) : wCv l yX2_makeEmpty wsX2_makeEmpty { frames := 0, cells := 0, slots := 0, locals := 0 } D 340 cSh ad cs [.ref (ad (201 + 6 * b))] sz M J (fun u_ => u_ = (F_X2_makeEmpty M b, J)) := by
  refine wC_v (cc := cX2_makeEmpty) (maxL := 1) (ret := none) (by decide) rfl (Nat.le_of_ble_eq_true rfl) ?_
  intro p e s m below meth c ls A hx hb hr hml hown hts hlocks hK hA hw hl hAe
  clear hAe
  have hl : lv_has ls 1 [(0, .ref (ad (201 + 6 * b)))] := hl
  have f9 : (Cond.fieldLink RX2 9 "RangePropagator$Block" "statementCount" "I").before _ s = true := hts _ (by decide +kernel)
  have iX2 : ∀ w ∈ wsX20, w ∈ wsX2_makeEmpty := by decide +kernel
  have f28 : (Cond.fieldLink RX2 28 "RangePropagator$Block" "edgeCount" "I").before _ s = true := hts _ (by decide +kernel)
  refine lv_aload_n hx hb dX2_makeEmpty_0 rfl (lv_at hl 0 rfl) ?_
  refine lv_iconst (v := nI 0) hx hb dX2_makeEmpty_1 (by decide) ?_
  refine wr_pi hx hb hown hK hts iX2 tyX2_ok nmX2 (ci := 1) rfl 0 (by decide) f9 rfl rfl hw (201 + 6 * b) (by omega) (cs_B (by omega)) rfl rfl rfl dX2_makeEmpty_2 (fun H locs hw => ?_)
  refine lv_aload_n hx hb dX2_makeEmpty_5 rfl (lv_at hl 0 rfl) ?_
  refine lv_iconst (v := nI 0) hx hb dX2_makeEmpty_6 (by decide) ?_
  refine wr_pi hx hb hown hK hts iX2 tyX2_ok nmX2 (ci := 1) rfl 5 (by decide) f28 rfl rfl hw (201 + 6 * b) (by omega) (cs_B (by omega)) rfl rfl rfl dX2_makeEmpty_7 (fun H locs hw => ?_)
  exact wr_vret hx hb hr hK hw (by show (_, _) = (_, _); unfold F_X2_makeEmpty; rfl) hlocks dX2_makeEmpty_10
set_option maxHeartbeats 4000000 in
set_option maxRecDepth 100000 in
theorem k_X2_applyTo (l : Launch) (D : va_G) (ad : Nat → Nat) (cs : Nat → ClassId) (sz : Nat) (M : wM) (J : wJ) (b : Nat) (i : Nat) (hb16 : b < 16) (hi : i < 67) (zi : bz (M (3 * i) 0)) (hB : blOK M b) : wCv l yX2_applyTo wsX2_applyTo { frames := 3, cells := 0, slots := 0, locals := 83 } D 340 cSh ad cs [.ref (ad (201 + 6 * b)), .ref (ad (3 * i))] sz M J (pS M J i (apB M b (sv M i))) := by
  refine wC_v (cc := cX2_applyTo) (maxL := 3) (ret := none) (by decide) rfl (Nat.le_of_ble_eq_true rfl) ?_
  intro p e s m below meth c ls A hx hb hr hml hown hts hlocks hK hA hw hl hAe
  clear hAe
  have hl : lv_has ls 3 [(0, .ref (ad (201 + 6 * b))), (1, .ref (ad (3 * i)))] := hl
  have f43 : (Cond.fieldLink RX2 43 "RangePropagator$State" "isNone" "Z").before _ s = true := hts _ (by decide +kernel)
  have iX7 : ∀ w ∈ wsX70, w ∈ wsX2_applyTo := by decide +kernel
  have f9 : (Cond.fieldLink RX2 9 "RangePropagator$Block" "statementCount" "I").before _ s = true := hts _ (by decide +kernel)
  have iX2 : ∀ w ∈ wsX20, w ∈ wsX2_applyTo := by decide +kernel
  have f15 : (Cond.fieldLink RX2 15 "RangePropagator$Block" "kinds" "[I").before _ s = true := hts _ (by decide +kernel)
  have f19 : (Cond.fieldLink RX2 19 "RangePropagator$Block" "targets" "[I").before _ s = true := hts _ (by decide +kernel)
  have f22 : (Cond.fieldLink RX2 22 "RangePropagator$Block" "firsts" "[I").before _ s = true := hts _ (by decide +kernel)
  have f25 : (Cond.fieldLink RX2 25 "RangePropagator$Block" "seconds" "[I").before _ s = true := hts _ (by decide +kernel)
  have hB8 : tn (M (201 + 6 * b) 0) ≤ 8 := hB.2.1
  refine lv_aload_n hx hb dX2_applyTo_0 rfl (lv_at hl 1 rfl) ?_
  refine wr_gi hx hb hown hK hts iX7 (ci := 6) rfl 0 (by decide) f43 rfl hw (3 * i) (by omega) (cs_S (by omega)) rfl dX2_applyTo_1 ?_
  refine lv_if_eq (tgt := 8) hx hb dX2_applyTo_4 (by decide) (fun q1 => ?_) (fun q1 => ?_)
  · skip
    refine lv_iconst (v := nI 0) hx hb dX2_applyTo_8 (by decide) ?_
    refine lv_istore_n (lv' := [(2, .int (nI 0)), (0, .ref (ad (201 + 6 * b))), (1, .ref (ad (3 * i)))]) hx hb dX2_applyTo_9 rfl hl (by decide) rfl (fun ls hl => ?_)
    refine w_loop (σ := Nat) (fun k M' J' ls => lv_has ls 3 [(0, .ref (ad (201 + 6 * b))), (1, .ref (ad (3 * i))), (2, .int (nI k))] ∧ J' = J ∧ k ≤ tn (M (201 + 6 * b) 0) ∧ Iap M b i k M') (fun k => tn (M (201 + 6 * b) 0) - k) (fun k M2 J1_ H locs ls hI hw ih3 => ?_) 0 ⟨lv_sub hl [1, 2, 0] rfl, rfl, by omega, ⟨kp_refl _ _, q1, rfl⟩⟩ hw
    obtain ⟨hl, eJ_, hk_, hI⟩ := hI
    rw [eJ_] at hw
    clear eJ_
    refine lv_iload_n hx hb dX2_applyTo_10 rfl (lv_at hl 2 rfl) ?_
    refine lv_aload_n hx hb dX2_applyTo_11 rfl (lv_at hl 0 rfl) ?_
    refine wr_gi hx hb hown hK hts iX2 (ci := 1) rfl 0 (by decide) f9 rfl hw (201 + 6 * b) (by omega) (cs_B (by omega)) rfl dX2_applyTo_12 ?_
    rw [show M2 (201 + 6 * b) 0 = nI (tn (M (201 + 6 * b) 0)) from ((congrFun (hI.1 (201 + 6 * b) (by unfold stc; omega)) 0).trans hB.1)]
    refine lv_icmp_ge (tgt := 99) hx hb dX2_applyTo_15 (by decide) (fun q4 => ?_) (fun q4 => ?_)
    · have q4n : (tn (M (201 + 6 * b) 0)) ≤ k := (nI_leI (by omega) (by omega)).mp q4
      exact wr_vret hx hb hr hK hw (p_ap2 (by have e : k = tn (M (201 + 6 * b) 0) := (by omega); rw [← e]; exact hI)) hlocks dX2_applyTo_99
    · have q4n : ¬ (tn (M (201 + 6 * b) 0)) ≤ k := fun z => q4 ((nI_leI (by omega) (by omega)).mpr z)
      refine lv_aload_n hx hb dX2_applyTo_18 rfl (lv_at hl 0 rfl) ?_
      refine wr_gr hx hb hown hK hts iX2 (ci := 1) rfl 1 (by decide) f15 rfl hw (201 + 6 * b) (by omega) (201 + 6 * b + 1) (cs_B (by omega)) rfl dX2_applyTo_19 ?_
      refine lv_iload_n hx hb dX2_applyTo_22 rfl (lv_at hl 2 rfl) ?_
      refine wr_ildN hx hb hK hw (201 + 6 * b + 1) (by omega) (cs_B1 (by omega)) (by decide) k rfl (by omega) dX2_applyTo_23 ?_
      rw [show M2 (201 + 6 * b + 1) k = M (201 + 6 * b + 1) k from (congrFun (hI.1 (201 + 6 * b + 1) (by unfold stc; omega)) k)]
      refine lv_bipush (v := nI 6) hx hb dX2_applyTo_24 (by decide) ?_
      refine lv_icmp_eq (tgt := 40) hx hb dX2_applyTo_26 (by decide) (fun q5 => ?_) (fun q5 => ?_)
      · skip
        refine lv_aload_n hx hb dX2_applyTo_40 rfl (lv_at hl 1 rfl) ?_
        refine lv_aload_n hx hb dX2_applyTo_41 rfl (lv_at hl 0 rfl) ?_
        refine wr_gr hx hb hown hK hts iX2 (ci := 1) rfl 2 (by decide) f19 rfl hw (201 + 6 * b) (by omega) (201 + 6 * b + 2) (cs_B (by omega)) rfl dX2_applyTo_42 ?_
        refine lv_iload_n hx hb dX2_applyTo_45 rfl (lv_at hl 2 rfl) ?_
        refine wr_ildN hx hb hK hw (201 + 6 * b + 2) (by omega) (cs_B2 (by omega)) (by decide) k rfl (by omega) dX2_applyTo_46 ?_
        rw [show M2 (201 + 6 * b + 2) k = nI (tn (M (201 + 6 * b + 2) k)) from ((congrFun (hI.1 (201 + 6 * b + 2) (by unfold stc; omega)) k).trans (hB.2.2 k (by omega)).1.1)]
        refine lv_aload_n hx hb dX2_applyTo_47 rfl (lv_at hl 0 rfl) ?_
        refine wr_gr hx hb hown hK hts iX2 (ci := 1) rfl 3 (by decide) f22 rfl hw (201 + 6 * b) (by omega) (201 + 6 * b + 3) (cs_B (by omega)) rfl dX2_applyTo_48 ?_
        refine lv_iload_n hx hb dX2_applyTo_51 rfl (lv_at hl 2 rfl) ?_
        refine wr_ildN hx hb hK hw (201 + 6 * b + 3) (by omega) (cs_B3 (by omega)) (by decide) k rfl (by omega) dX2_applyTo_52 ?_
        rw [show M2 (201 + 6 * b + 3) k = M (201 + 6 * b + 3) k from (congrFun (hI.1 (201 + 6 * b + 3) (by unfold stc; omega)) k)]
        refine lv_aload_n hx hb dX2_applyTo_53 rfl (lv_at hl 0 rfl) ?_
        refine wr_gr hx hb hown hK hts iX2 (ci := 1) rfl 4 (by decide) f25 rfl hw (201 + 6 * b) (by omega) (201 + 6 * b + 4) (cs_B (by omega)) rfl dX2_applyTo_54 ?_
        refine lv_iload_n hx hb dX2_applyTo_57 rfl (lv_at hl 2 rfl) ?_
        refine wr_ildN hx hb hK hw (201 + 6 * b + 4) (by omega) (cs_B4 (by omega)) (by decide) k rfl (by omega) dX2_applyTo_58 ?_
        rw [show M2 (201 + 6 * b + 4) k = M (201 + 6 * b + 4) k from (congrFun (hI.1 (201 + 6 * b + 4) (by unfold stc; omega)) k)]
        refine wr_cVv (k := 3 * i) (ci := 6) (As := [.int (nI (tn (M (201 + 6 * b + 2) k))), .int (M (201 + 6 * b + 3) k), .int (M (201 + 6 * b + 4) k)]) (rest := []) ⟨hx, hb, hml, hown, hts⟩ (cwV 3 hts gX2_applyTo_X7_setRange rfl rfl rfl (by decide +kernel) ⟨Nat.le_of_ble_eq_true rfl, Nat.le_of_ble_eq_true rfl⟩) hK hA hw (k_X7_setRange l D ad cs H.size M2 J i (tn (M (201 + 6 * b + 2) k)) (M (201 + 6 * b + 3) k) (M (201 + 6 * b + 4) k) (by omega) (hB.2.2 k (by omega)).1.2) (by omega) (cs_S (by omega)) rfl rfl rfl hl.1 (Nat.le_of_ble_eq_true rfl) ⟨Nat.le_of_ble_eq_true rfl, Nat.le_of_ble_eq_true rfl⟩ dX2_applyTo_59 (fun M7 J8 H locs h9 hw => ?_)
        cases h9
        refine lv_goto (tgt := 93) hx hb dX2_applyTo_62 (by decide) ?_
        refine lv_iinc (v := nI (k + 1)) (lv' := [(2, .int (nI (k + 1))), (0, .ref (ad (201 + 6 * b))), (1, .ref (ad (3 * i)))]) hx hb dX2_applyTo_93 hl (k := 2) rfl (nI_1 _) (by decide) rfl (fun ls hl => ?_)
        refine lv_goto (tgt := 10) hx hb dX2_applyTo_96 (by decide) ?_
        exact ih3 (k + 1) (F_X7_setRange M2 i (tn (M (201 + 6 * b + 2) k)) (M (201 + 6 * b + 3) k) (M (201 + 6 * b + 4) k)) J _ _ _ (by omega) ⟨lv_sub hl [1, 2, 0] rfl, rfl, by omega, Iap_set hI (hB.2.2 k (by omega)) (Or.inl q5)⟩ hw
      · skip
        refine lv_aload_n hx hb dX2_applyTo_29 rfl (lv_at hl 0 rfl) ?_
        refine wr_gr hx hb hown hK hts iX2 (ci := 1) rfl 1 (by decide) f15 rfl hw (201 + 6 * b) (by omega) (201 + 6 * b + 1) (cs_B (by omega)) rfl dX2_applyTo_30 ?_
        refine lv_iload_n hx hb dX2_applyTo_33 rfl (lv_at hl 2 rfl) ?_
        refine wr_ildN hx hb hK hw (201 + 6 * b + 1) (by omega) (cs_B1 (by omega)) (by decide) k rfl (by omega) dX2_applyTo_34 ?_
        rw [show M2 (201 + 6 * b + 1) k = M (201 + 6 * b + 1) k from (congrFun (hI.1 (201 + 6 * b + 1) (by unfold stc; omega)) k)]
        refine lv_bipush (v := nI 7) hx hb dX2_applyTo_35 (by decide) ?_
        refine lv_icmp_ne (tgt := 65) hx hb dX2_applyTo_37 (by decide) (fun q10 => ?_) (fun q10 => ?_)
        · skip
          refine lv_aload_n hx hb dX2_applyTo_65 rfl (lv_at hl 1 rfl) ?_
          refine lv_aload_n hx hb dX2_applyTo_66 rfl (lv_at hl 0 rfl) ?_
          refine wr_gr hx hb hown hK hts iX2 (ci := 1) rfl 1 (by decide) f15 rfl hw (201 + 6 * b) (by omega) (201 + 6 * b + 1) (cs_B (by omega)) rfl dX2_applyTo_67 ?_
          refine lv_iload_n hx hb dX2_applyTo_70 rfl (lv_at hl 2 rfl) ?_
          refine wr_ildN hx hb hK hw (201 + 6 * b + 1) (by omega) (cs_B1 (by omega)) (by decide) k rfl (by omega) dX2_applyTo_71 ?_
          rw [show M2 (201 + 6 * b + 1) k = M (201 + 6 * b + 1) k from (congrFun (hI.1 (201 + 6 * b + 1) (by unfold stc; omega)) k)]
          refine lv_aload_n hx hb dX2_applyTo_72 rfl (lv_at hl 0 rfl) ?_
          refine wr_gr hx hb hown hK hts iX2 (ci := 1) rfl 2 (by decide) f19 rfl hw (201 + 6 * b) (by omega) (201 + 6 * b + 2) (cs_B (by omega)) rfl dX2_applyTo_73 ?_
          refine lv_iload_n hx hb dX2_applyTo_76 rfl (lv_at hl 2 rfl) ?_
          refine wr_ildN hx hb hK hw (201 + 6 * b + 2) (by omega) (cs_B2 (by omega)) (by decide) k rfl (by omega) dX2_applyTo_77 ?_
          rw [show M2 (201 + 6 * b + 2) k = nI (tn (M (201 + 6 * b + 2) k)) from ((congrFun (hI.1 (201 + 6 * b + 2) (by unfold stc; omega)) k).trans (hB.2.2 k (by omega)).1.1)]
          refine lv_aload_n hx hb dX2_applyTo_78 rfl (lv_at hl 0 rfl) ?_
          refine wr_gr hx hb hown hK hts iX2 (ci := 1) rfl 3 (by decide) f22 rfl hw (201 + 6 * b) (by omega) (201 + 6 * b + 3) (cs_B (by omega)) rfl dX2_applyTo_79 ?_
          refine lv_iload_n hx hb dX2_applyTo_82 rfl (lv_at hl 2 rfl) ?_
          refine wr_ildN hx hb hK hw (201 + 6 * b + 3) (by omega) (cs_B3 (by omega)) (by decide) k rfl (by omega) dX2_applyTo_83 ?_
          rw [show M2 (201 + 6 * b + 3) k = nI (tn (M (201 + 6 * b + 3) k)) from ((congrFun (hI.1 (201 + 6 * b + 3) (by unfold stc; omega)) k).trans ((hB.2.2 k (by omega)).2 (fun z => z.elim q5 q10)).1.1)]
          refine lv_aload_n hx hb dX2_applyTo_84 rfl (lv_at hl 0 rfl) ?_
          refine wr_gr hx hb hown hK hts iX2 (ci := 1) rfl 4 (by decide) f25 rfl hw (201 + 6 * b) (by omega) (201 + 6 * b + 4) (cs_B (by omega)) rfl dX2_applyTo_85 ?_
          refine lv_iload_n hx hb dX2_applyTo_88 rfl (lv_at hl 2 rfl) ?_
          refine wr_ildN hx hb hK hw (201 + 6 * b + 4) (by omega) (cs_B4 (by omega)) (by decide) k rfl (by omega) dX2_applyTo_89 ?_
          rw [show M2 (201 + 6 * b + 4) k = nI (tn (M (201 + 6 * b + 4) k)) from ((congrFun (hI.1 (201 + 6 * b + 4) (by unfold stc; omega)) k).trans ((hB.2.2 k (by omega)).2 (fun z => z.elim q5 q10)).2.1)]
          refine wr_cVv (k := 3 * i) (ci := 6) (As := [.int (M (201 + 6 * b + 1) k), .int (nI (tn (M (201 + 6 * b + 2) k))), .int (nI (tn (M (201 + 6 * b + 3) k))), .int (nI (tn (M (201 + 6 * b + 4) k)))]) (rest := []) ⟨hx, hb, hml, hown, hts⟩ (cwV 4 hts gX2_applyTo_X7_assign rfl rfl rfl (by decide +kernel) ⟨Nat.le_of_ble_eq_true rfl, Nat.le_of_ble_eq_true rfl⟩) hK hA hw (k_X7_assign l D ad cs H.size M2 J i (M (201 + 6 * b + 1) k) (tn (M (201 + 6 * b + 2) k)) (tn (M (201 + 6 * b + 3) k)) (tn (M (201 + 6 * b + 4) k)) (by omega) (hB.2.2 k (by omega)).1.2 ((hB.2.2 k (by omega)).2 (fun z => z.elim q5 q10)).1.2 ((hB.2.2 k (by omega)).2 (fun z => z.elim q5 q10)).2.2) (by omega) (cs_S (by omega)) rfl rfl rfl hl.1 (Nat.le_of_ble_eq_true rfl) ⟨Nat.le_of_ble_eq_true rfl, Nat.le_of_ble_eq_true rfl⟩ dX2_applyTo_90 (fun M12 J13 H locs h14 hw => ?_)
          cases h14
          refine lv_iinc (v := nI (k + 1)) (lv' := [(2, .int (nI (k + 1))), (0, .ref (ad (201 + 6 * b))), (1, .ref (ad (3 * i)))]) hx hb dX2_applyTo_93 hl (k := 2) rfl (nI_1 _) (by decide) rfl (fun ls hl => ?_)
          refine lv_goto (tgt := 10) hx hb dX2_applyTo_96 (by decide) ?_
          exact ih3 (k + 1) (F_X7_assign M2 i (M (201 + 6 * b + 1) k) (tn (M (201 + 6 * b + 2) k)) (tn (M (201 + 6 * b + 3) k)) (tn (M (201 + 6 * b + 4) k))) J _ _ _ (by omega) ⟨lv_sub hl [1, 2, 0] rfl, rfl, by omega, Iap_as hI (hB.2.2 k (by omega)) (fun z => z.elim q5 q10)⟩ hw
        · skip
          refine lv_aload_n hx hb dX2_applyTo_40 rfl (lv_at hl 1 rfl) ?_
          refine lv_aload_n hx hb dX2_applyTo_41 rfl (lv_at hl 0 rfl) ?_
          refine wr_gr hx hb hown hK hts iX2 (ci := 1) rfl 2 (by decide) f19 rfl hw (201 + 6 * b) (by omega) (201 + 6 * b + 2) (cs_B (by omega)) rfl dX2_applyTo_42 ?_
          refine lv_iload_n hx hb dX2_applyTo_45 rfl (lv_at hl 2 rfl) ?_
          refine wr_ildN hx hb hK hw (201 + 6 * b + 2) (by omega) (cs_B2 (by omega)) (by decide) k rfl (by omega) dX2_applyTo_46 ?_
          rw [show M2 (201 + 6 * b + 2) k = nI (tn (M (201 + 6 * b + 2) k)) from ((congrFun (hI.1 (201 + 6 * b + 2) (by unfold stc; omega)) k).trans (hB.2.2 k (by omega)).1.1)]
          refine lv_aload_n hx hb dX2_applyTo_47 rfl (lv_at hl 0 rfl) ?_
          refine wr_gr hx hb hown hK hts iX2 (ci := 1) rfl 3 (by decide) f22 rfl hw (201 + 6 * b) (by omega) (201 + 6 * b + 3) (cs_B (by omega)) rfl dX2_applyTo_48 ?_
          refine lv_iload_n hx hb dX2_applyTo_51 rfl (lv_at hl 2 rfl) ?_
          refine wr_ildN hx hb hK hw (201 + 6 * b + 3) (by omega) (cs_B3 (by omega)) (by decide) k rfl (by omega) dX2_applyTo_52 ?_
          rw [show M2 (201 + 6 * b + 3) k = M (201 + 6 * b + 3) k from (congrFun (hI.1 (201 + 6 * b + 3) (by unfold stc; omega)) k)]
          refine lv_aload_n hx hb dX2_applyTo_53 rfl (lv_at hl 0 rfl) ?_
          refine wr_gr hx hb hown hK hts iX2 (ci := 1) rfl 4 (by decide) f25 rfl hw (201 + 6 * b) (by omega) (201 + 6 * b + 4) (cs_B (by omega)) rfl dX2_applyTo_54 ?_
          refine lv_iload_n hx hb dX2_applyTo_57 rfl (lv_at hl 2 rfl) ?_
          refine wr_ildN hx hb hK hw (201 + 6 * b + 4) (by omega) (cs_B4 (by omega)) (by decide) k rfl (by omega) dX2_applyTo_58 ?_
          rw [show M2 (201 + 6 * b + 4) k = M (201 + 6 * b + 4) k from (congrFun (hI.1 (201 + 6 * b + 4) (by unfold stc; omega)) k)]
          refine wr_cVv (k := 3 * i) (ci := 6) (As := [.int (nI (tn (M (201 + 6 * b + 2) k))), .int (M (201 + 6 * b + 3) k), .int (M (201 + 6 * b + 4) k)]) (rest := []) ⟨hx, hb, hml, hown, hts⟩ (cwV 3 hts gX2_applyTo_X7_setRange rfl rfl rfl (by decide +kernel) ⟨Nat.le_of_ble_eq_true rfl, Nat.le_of_ble_eq_true rfl⟩) hK hA hw (k_X7_setRange l D ad cs H.size M2 J i (tn (M (201 + 6 * b + 2) k)) (M (201 + 6 * b + 3) k) (M (201 + 6 * b + 4) k) (by omega) (hB.2.2 k (by omega)).1.2) (by omega) (cs_S (by omega)) rfl rfl rfl hl.1 (Nat.le_of_ble_eq_true rfl) ⟨Nat.le_of_ble_eq_true rfl, Nat.le_of_ble_eq_true rfl⟩ dX2_applyTo_59 (fun M16 J17 H locs h18 hw => ?_)
          cases h18
          refine lv_goto (tgt := 93) hx hb dX2_applyTo_62 (by decide) ?_
          refine lv_iinc (v := nI (k + 1)) (lv' := [(2, .int (nI (k + 1))), (0, .ref (ad (201 + 6 * b))), (1, .ref (ad (3 * i)))]) hx hb dX2_applyTo_93 hl (k := 2) rfl (nI_1 _) (by decide) rfl (fun ls hl => ?_)
          refine lv_goto (tgt := 10) hx hb dX2_applyTo_96 (by decide) ?_
          exact ih3 (k + 1) (F_X7_setRange M2 i (tn (M (201 + 6 * b + 2) k)) (M (201 + 6 * b + 3) k) (M (201 + 6 * b + 4) k)) J _ _ _ (by omega) ⟨lv_sub hl [1, 2, 0] rfl, rfl, by omega, Iap_set hI (hB.2.2 k (by omega)) (Or.inr q10)⟩ hw
  · skip
    exact wr_vret hx hb hr hK hw (p_ap1 zi q1) hlocks dX2_applyTo_7
set_option maxHeartbeats 4000000 in
set_option maxRecDepth 100000 in
theorem k_X2_refineForEdge (l : Launch) (D : va_G) (ad : Nat → Nat) (cs : Nat → ClassId) (sz : Nat) (M : wM) (J : wJ) (b : Nat) (i : Nat) (e1 : Nat) (hb16 : b < 16) (hi : i < 67) (he2 : e1 < 2) (zi : bz (M (3 * i) 0)) (hE : edOK M b) : wCv l yX2_refineForEdge wsX2_refineForEdge { frames := 3, cells := 0, slots := 0, locals := 78 } D 340 cSh ad cs [.ref (ad (201 + 6 * b)), .ref (ad (3 * i)), .int (nI e1)] sz M J (pS M J i (edB M b e1 (sv M i))) := by
  refine wC_v (cc := cX2_refineForEdge) (maxL := 3) (ret := none) (by decide) rfl (Nat.le_of_ble_eq_true rfl) ?_
  intro p e s m below meth c ls A hx hb hr hml hown hts hlocks hK hA hw hl hAe
  clear hAe
  have hl : lv_has ls 3 [(0, .ref (ad (201 + 6 * b))), (1, .ref (ad (3 * i))), (2, .int (nI e1))] := hl
  have f43 : (Cond.fieldLink RX2 43 "RangePropagator$State" "isNone" "Z").before _ s = true := hts _ (by decide +kernel)
  have iX7 : ∀ w ∈ wsX70, w ∈ wsX2_refineForEdge := by decide +kernel
  have f28 : (Cond.fieldLink RX2 28 "RangePropagator$Block" "edgeCount" "I").before _ s = true := hts _ (by decide +kernel)
  have iX2 : ∀ w ∈ wsX20, w ∈ wsX2_refineForEdge := by decide +kernel
  have f37 : (Cond.fieldLink RX2 37 "RangePropagator$Block" "branchY" "I").before _ s = true := hts _ (by decide +kernel)
  have f40 : (Cond.fieldLink RX2 40 "RangePropagator$Block" "relation" "I").before _ s = true := hts _ (by decide +kernel)
  have f34 : (Cond.fieldLink RX2 34 "RangePropagator$Block" "branchX" "I").before _ s = true := hts _ (by decide +kernel)
  have hE2 : tn (M (201 + 6 * b) 5) ≤ 2 := hE.2.1
  refine lv_aload_n hx hb dX2_refineForEdge_0 rfl (lv_at hl 1 rfl) ?_
  refine wr_gi hx hb hown hK hts iX7 (ci := 6) rfl 0 (by decide) f43 rfl hw (3 * i) (by omega) (cs_S (by omega)) rfl dX2_refineForEdge_1 ?_
  refine lv_if_ne (tgt := 15) hx hb dX2_refineForEdge_4 (by decide) (fun q1 => ?_) (fun q1 => ?_)
  · skip
    exact wr_vret hx hb hr hK hw (p_ed1 zi q1) hlocks dX2_refineForEdge_15
  · skip
    refine lv_aload_n hx hb dX2_refineForEdge_7 rfl (lv_at hl 0 rfl) ?_
    refine wr_gi hx hb hown hK hts iX2 (ci := 1) rfl 5 (by decide) f28 rfl hw (201 + 6 * b) (by omega) (cs_B (by omega)) rfl dX2_refineForEdge_8 ?_
    rw [show M (201 + 6 * b) 5 = nI (tn (M (201 + 6 * b) 5)) from hE.1]
    refine lv_iconst (v := nI 2) hx hb dX2_refineForEdge_11 (by decide) ?_
    refine lv_icmp_ge (tgt := 16) hx hb dX2_refineForEdge_12 (by decide) (fun q2 => ?_) (fun q2 => ?_)
    · have q2n : 2 ≤ (tn (M (201 + 6 * b) 5)) := (nI_leI (by omega) (by omega)).mp q2
      refine lv_iload_n hx hb dX2_refineForEdge_16 rfl (lv_at hl 2 rfl) ?_
      refine lv_if_ne (tgt := 39) hx hb dX2_refineForEdge_17 (by decide) (fun q3 => ?_) (fun q3 => ?_)
      · skip
        refine lv_aload_n hx hb dX2_refineForEdge_39 rfl (lv_at hl 1 rfl) ?_
        refine lv_aload_n hx hb dX2_refineForEdge_40 rfl (lv_at hl 0 rfl) ?_
        refine wr_gi hx hb hown hK hts iX2 (ci := 1) rfl 8 (by decide) f37 rfl hw (201 + 6 * b) (by omega) (cs_B (by omega)) rfl dX2_refineForEdge_41 ?_
        rw [show M (201 + 6 * b) 8 = nI (tn (M (201 + 6 * b) 8)) from (hE.2.2 (by omega)).2.1]
        refine lv_aload_n hx hb dX2_refineForEdge_44 rfl (lv_at hl 0 rfl) ?_
        refine wr_gi hx hb hown hK hts iX2 (ci := 1) rfl 9 (by decide) f40 rfl hw (201 + 6 * b) (by omega) (cs_B (by omega)) rfl dX2_refineForEdge_45 ?_
        refine wr_cSi (As := [.int (M (201 + 6 * b) 9)]) (rest := [.int (nI (tn (M (201 + 6 * b) 8))), .ref (ad (3 * i))]) ⟨hx, hb, hml, hown, hts⟩ (va_cwS 1 hts gX2_refineForEdge_X1_oppositeOfSwapped rfl rfl rfl (by decide +kernel) ⟨Nat.le_of_ble_eq_true rfl, Nat.le_of_ble_eq_true rfl⟩) hK hA hw (k_X1_oppositeOfSwapped l D ad cs s.heap.size M J (M (201 + 6 * b) 9) ) rfl rfl hl.1 (Nat.le_of_ble_eq_true rfl) ⟨Nat.le_of_ble_eq_true rfl, Nat.le_of_ble_eq_true rfl⟩ dX2_refineForEdge_48 (fun r4 M5 J6 H locs h7 hw => ?_)
        obtain ⟨h7, rfl⟩ := h7
        cases h7
        refine lv_aload_n hx hb dX2_refineForEdge_51 rfl (lv_at hl 0 rfl) ?_
        refine wr_gi hx hb hown hK hts iX2 (ci := 1) rfl 7 (by decide) f34 rfl hw (201 + 6 * b) (by omega) (cs_B (by omega)) rfl dX2_refineForEdge_52 ?_
        rw [show M (201 + 6 * b) 7 = nI (tn (M (201 + 6 * b) 7)) from (hE.2.2 (by omega)).1.1]
        refine wr_cVv (k := 3 * i) (ci := 6) (As := [.int (nI (tn (M (201 + 6 * b) 8))), .int (E_X1_oppositeOfSwapped M (M (201 + 6 * b) 9)), .int (nI (tn (M (201 + 6 * b) 7)))]) (rest := []) ⟨hx, hb, hml, hown, hts⟩ (cwV 3 hts gX2_refineForEdge_X7_refine rfl rfl rfl (by decide +kernel) ⟨Nat.le_of_ble_eq_true rfl, Nat.le_of_ble_eq_true rfl⟩) hK hA hw (k_X7_refine l D ad cs H.size M J i (tn (M (201 + 6 * b) 8)) (E_X1_oppositeOfSwapped M (M (201 + 6 * b) 9)) (tn (M (201 + 6 * b) 7)) (by omega) (hE.2.2 (by omega)).2.2 (hE.2.2 (by omega)).1.2) (by omega) (cs_S (by omega)) rfl rfl rfl hl.1 (Nat.le_of_ble_eq_true rfl) ⟨Nat.le_of_ble_eq_true rfl, Nat.le_of_ble_eq_true rfl⟩ dX2_refineForEdge_55 (fun M9 J10 H locs h11 hw => ?_)
        cases h11
        exact wr_vret hx hb hr hK hw (p_ed4 q1 hE (by omega) (fun z => q3 (by rw [z]; rfl))) hlocks dX2_refineForEdge_58
      · skip
        refine lv_aload_n hx hb dX2_refineForEdge_20 rfl (lv_at hl 1 rfl) ?_
        refine lv_aload_n hx hb dX2_refineForEdge_21 rfl (lv_at hl 0 rfl) ?_
        refine wr_gi hx hb hown hK hts iX2 (ci := 1) rfl 7 (by decide) f34 rfl hw (201 + 6 * b) (by omega) (cs_B (by omega)) rfl dX2_refineForEdge_22 ?_
        rw [show M (201 + 6 * b) 7 = nI (tn (M (201 + 6 * b) 7)) from (hE.2.2 (by omega)).1.1]
        refine lv_aload_n hx hb dX2_refineForEdge_25 rfl (lv_at hl 0 rfl) ?_
        refine wr_gi hx hb hown hK hts iX2 (ci := 1) rfl 9 (by decide) f40 rfl hw (201 + 6 * b) (by omega) (cs_B (by omega)) rfl dX2_refineForEdge_26 ?_
        refine lv_aload_n hx hb dX2_refineForEdge_29 rfl (lv_at hl 0 rfl) ?_
        refine wr_gi hx hb hown hK hts iX2 (ci := 1) rfl 8 (by decide) f37 rfl hw (201 + 6 * b) (by omega) (cs_B (by omega)) rfl dX2_refineForEdge_30 ?_
        rw [show M (201 + 6 * b) 8 = nI (tn (M (201 + 6 * b) 8)) from (hE.2.2 (by omega)).2.1]
        refine wr_cVv (k := 3 * i) (ci := 6) (As := [.int (nI (tn (M (201 + 6 * b) 7))), .int (M (201 + 6 * b) 9), .int (nI (tn (M (201 + 6 * b) 8)))]) (rest := []) ⟨hx, hb, hml, hown, hts⟩ (cwV 3 hts gX2_refineForEdge_X7_refine rfl rfl rfl (by decide +kernel) ⟨Nat.le_of_ble_eq_true rfl, Nat.le_of_ble_eq_true rfl⟩) hK hA hw (k_X7_refine l D ad cs s.heap.size M J i (tn (M (201 + 6 * b) 7)) (M (201 + 6 * b) 9) (tn (M (201 + 6 * b) 8)) (by omega) (hE.2.2 (by omega)).1.2 (hE.2.2 (by omega)).2.2) (by omega) (cs_S (by omega)) rfl rfl rfl hl.1 (Nat.le_of_ble_eq_true rfl) ⟨Nat.le_of_ble_eq_true rfl, Nat.le_of_ble_eq_true rfl⟩ dX2_refineForEdge_33 (fun M13 J14 H locs h15 hw => ?_)
        cases h15
        refine lv_goto (tgt := 58) hx hb dX2_refineForEdge_36 (by decide) ?_
        exact wr_vret hx hb hr hK hw (p_ed3 q1 hE (by omega) (eN0 (by omega) q3)) hlocks dX2_refineForEdge_58
    · have q2n : ¬ 2 ≤ (tn (M (201 + 6 * b) 5)) := fun z => q2 ((nI_leI (by omega) (by omega)).mpr z)
      exact wr_vret hx hb hr hK hw (p_ed2 zi (by omega)) hlocks dX2_refineForEdge_15
end
section
/-! ===== thresholds, widening; flows: pure ===== -/
def gu (M : wM) (v : Int32) : Nat → Int32
  | 0 => -1000000000
  | k + 1 => if v < M 333 k then gu M v k else if M 333 k ≤ gu M v k then gu M v k else M 333 k
def sm (M : wM) (v : Int32) : Nat → Int32
  | 0 => 1000000000
  | k + 1 => if M 333 k < v then sm M v k else if sm M v k ≤ M 333 k then sm M v k else M 333 k
theorem gu_1 {M : wM} {v : Int32} {k : Nat} (h : v < M 333 k) : gu M v (k + 1) = gu M v k := by
  show (if v < M 333 k then gu M v k else if M 333 k ≤ gu M v k then gu M v k else M 333 k) = _
  rw [if_pos h]
theorem gu_2 {M : wM} {v : Int32} {k : Nat} (h : ¬ v < M 333 k) (g : M 333 k ≤ gu M v k) : gu M v (k + 1) = gu M v k := by
  show (if v < M 333 k then gu M v k else if M 333 k ≤ gu M v k then gu M v k else M 333 k) = _
  rw [if_neg h, if_pos g]
theorem gu_3 {M : wM} {v : Int32} {k : Nat} (h : ¬ v < M 333 k) (g : ¬ M 333 k ≤ gu M v k) : gu M v (k + 1) = M 333 k := by
  show (if v < M 333 k then gu M v k else if M 333 k ≤ gu M v k then gu M v k else M 333 k) = _
  rw [if_neg h, if_neg g]
theorem sm_1 {M : wM} {v : Int32} {k : Nat} (h : M 333 k < v) : sm M v (k + 1) = sm M v k := by
  show (if M 333 k < v then sm M v k else if sm M v k ≤ M 333 k then sm M v k else M 333 k) = _
  rw [if_pos h]
theorem sm_2 {M : wM} {v : Int32} {k : Nat} (h : ¬ M 333 k < v) (g : sm M v k ≤ M 333 k) : sm M v (k + 1) = sm M v k := by
  show (if M 333 k < v then sm M v k else if sm M v k ≤ M 333 k then sm M v k else M 333 k) = _
  rw [if_neg h, if_pos g]
theorem sm_3 {M : wM} {v : Int32} {k : Nat} (h : ¬ M 333 k < v) (g : ¬ sm M v k ≤ M 333 k) : sm M v (k + 1) = M 333 k := by
  show (if M 333 k < v then sm M v k else if sm M v k ≤ M 333 k then sm M v k else M 333 k) = _
  rw [if_neg h, if_neg g]
theorem gu_eq {M M1 : wM} (h : M1 333 = M 333) (v : Int32) : ∀ t, gu M1 v t = gu M v t
  | 0 => rfl
  | t + 1 => by
    show (if v < M1 333 t then gu M1 v t else if M1 333 t ≤ gu M1 v t then gu M1 v t else M1 333 t) = (if v < M 333 t then gu M v t else if M 333 t ≤ gu M v t then gu M v t else M 333 t)
    rw [gu_eq h v t, h]
theorem sm_eq {M M1 : wM} (h : M1 333 = M 333) (v : Int32) : ∀ t, sm M1 v t = sm M v t
  | 0 => rfl
  | t + 1 => by
    show (if M1 333 t < v then sm M1 v t else if sm M1 v t ≤ M1 333 t then sm M1 v t else M1 333 t) = (if M 333 t < v then sm M v t else if sm M v t ≤ M 333 t then sm M v t else M 333 t)
    rw [sm_eq h v t, h]
/-- a low (a high) of the join that has left the earlier one goes to a threshold -/
def wlo (M : wM) (t : Nat) (a c : Int32) : Int32 := if c ≤ a then a else gu M a t
def whi (M : wM) (t : Nat) (a c : Int32) : Int32 := if a ≤ c then a else sm M a t
def wd (M : wM) (t : Nat) (a c : aS) : aS := match a, c with
  | some f, some g => some (r6 (fun v => wlo M t (f.1 v) (g.1 v)), r6 (fun v => whi M t (f.2 v) (g.2 v)))
  | a, _ => a
theorem Iw_step {f g : Int32 → Int32 → Int32} {M M1 M2 : wM} {i j k : Nat} (h : I2 f g M i j k M1) (hk : kp M1 M2 (fun c => c = 3 * i + 1 ∨ c = 3 * i + 2)) (ho : ∀ v, v ≠ k → M2 (3 * i + 1) v = M1 (3 * i + 1) v ∧ M2 (3 * i + 2) v = M1 (3 * i + 2) v) (hl : M2 (3 * i + 1) k = f (M (3 * i + 1) k) (M (3 * j + 1) k)) (hh : M2 (3 * i + 2) k = g (M (3 * i + 2) k) (M (3 * j + 2) k)) : I2 f g M i j (k + 1) M2 := by
  refine ⟨kp_trans h.1 hk, fun v => ?_⟩
  by_cases q : v = k
  · subst q
    simp [hl, hh]
  · rw [(ho v q).1, (ho v q).2, (h.2 v).1, (h.2 v).2]
    by_cases q2 : v < k
    · simp [q2, show v < k + 1 by omega]
    · simp [q2, show ¬ v < k + 1 by omega]
theorem I2_at {f g : Int32 → Int32 → Int32} {M M1 : wM} {i j k : Nat} (hij : i ≠ j) (h : I2 f g M i j k M1) : M1 (3 * i + 1) k = M (3 * i + 1) k ∧ M1 (3 * i + 2) k = M (3 * i + 2) k ∧ M1 (3 * j + 1) = M (3 * j + 1) ∧ M1 (3 * j + 2) = M (3 * j + 2) := by
  refine ⟨by rw [(h.2 k).1, if_neg (Nat.lt_irrefl k)], by rw [(h.2 k).2, if_neg (Nat.lt_irrefl k)], h.1 _ (by omega), h.1 _ (by omega)⟩
theorem Iw_1 {M M1 : wM} {i j k t : Nat} (hij : i ≠ j) (h : I2 (wlo M t) (whi M t) M i j k M1) (c1 : M1 (3 * j + 1) k ≤ M1 (3 * i + 1) k) (c2 : M1 (3 * i + 2) k ≤ M1 (3 * j + 2) k) : I2 (wlo M t) (whi M t) M i j (k + 1) M1 := by
  obtain ⟨a1, a2, a3, a4⟩ := I2_at hij h
  rw [a1, a3] at c1; rw [a2, a4] at c2
  exact Iw_step h (kp_refl _ _) (fun v _ => ⟨rfl, rfl⟩) (by rw [a1, wlo, if_pos c1]) (by rw [a2, whi, if_pos c2])
theorem Iw_2 {M M1 : wM} {i j k t : Nat} (hi : i < 67) (hij : i ≠ j) (h : I2 (wlo M t) (whi M t) M i j k M1) (c1 : ¬ M1 (3 * j + 1) k ≤ M1 (3 * i + 1) k) (c2 : (wU M1 (3 * i + 1) k (gu M1 (M1 (3 * i + 1) k) t)) (3 * i + 2) k ≤ (wU M1 (3 * i + 1) k (gu M1 (M1 (3 * i + 1) k) t)) (3 * j + 2) k) : I2 (wlo M t) (whi M t) M i j (k + 1) (wU M1 (3 * i + 1) k (gu M1 (M1 (3 * i + 1) k) t)) := by
  obtain ⟨a1, a2, a3, a4⟩ := I2_at hij h
  rw [wU_ne (by omega), wU_ne (by omega), a2, a4] at c2
  rw [a1, a3] at c1
  refine Iw_step h (kp_U (Or.inl rfl)) (fun v hv => ⟨?_, ?_⟩) ?_ ?_
  · rw [wU_at, if_neg (fun z => hv z.2)]
  · rw [wU_ne (by omega)]
  · rw [wU_at, if_pos ⟨rfl, rfl⟩, a1, gu_eq (h.1 333 (by omega)), wlo, if_neg c1]
  · rw [wU_ne (by omega), a2, whi, if_pos c2]
theorem Iw_3 {M M1 : wM} {i j k t : Nat} (hi : i < 67) (hij : i ≠ j) (h : I2 (wlo M t) (whi M t) M i j k M1) (c1 : M1 (3 * j + 1) k ≤ M1 (3 * i + 1) k) (c2 : ¬ M1 (3 * i + 2) k ≤ M1 (3 * j + 2) k) : I2 (wlo M t) (whi M t) M i j (k + 1) (wU M1 (3 * i + 2) k (sm M1 (M1 (3 * i + 2) k) t)) := by
  obtain ⟨a1, a2, a3, a4⟩ := I2_at hij h
  rw [a1, a3] at c1; rw [a2, a4] at c2
  refine Iw_step h (kp_U (Or.inr rfl)) (fun v hv => ⟨?_, ?_⟩) ?_ ?_
  · rw [wU_ne (by omega)]
  · rw [wU_at, if_neg (fun z => hv z.2)]
  · rw [wU_ne (by omega), a1, wlo, if_pos c1]
  · rw [wU_at, if_pos ⟨rfl, rfl⟩, a2, sm_eq (h.1 333 (by omega)), whi, if_neg c2]
theorem Iw_4 {M M1 : wM} {i j k t : Nat} (hi : i < 67) (hij : i ≠ j) (h : I2 (wlo M t) (whi M t) M i j k M1) (c1 : ¬ M1 (3 * j + 1) k ≤ M1 (3 * i + 1) k) (c2 : ¬ (wU M1 (3 * i + 1) k (gu M1 (M1 (3 * i + 1) k) t)) (3 * i + 2) k ≤ (wU M1 (3 * i + 1) k (gu M1 (M1 (3 * i + 1) k) t)) (3 * j + 2) k) : I2 (wlo M t) (whi M t) M i j (k + 1) (wU (wU M1 (3 * i + 1) k (gu M1 (M1 (3 * i + 1) k) t)) (3 * i + 2) k (sm (wU M1 (3 * i + 1) k (gu M1 (M1 (3 * i + 1) k) t)) ((wU M1 (3 * i + 1) k (gu M1 (M1 (3 * i + 1) k) t)) (3 * i + 2) k) t)) := by
  obtain ⟨a1, a2, a3, a4⟩ := I2_at hij h
  rw [wU_ne (by omega), wU_ne (by omega), a2, a4] at c2
  rw [a1, a3] at c1
  refine Iw_step h (kp_trans (kp_U (Or.inl rfl)) (kp_U (Or.inr rfl))) (fun v hv => ⟨?_, ?_⟩) ?_ ?_
  · rw [wU_ne (by omega), wU_at, if_neg (fun z => hv z.2)]
  · rw [wU_at, if_neg (fun z => hv z.2), wU_ne (by omega)]
  · rw [wU_ne (by omega), wU_at, if_pos ⟨rfl, rfl⟩, a1, gu_eq (h.1 333 (by omega)), wlo, if_neg c1]
  · rw [wU_at, if_pos ⟨rfl, rfl⟩, wU_ne (by omega), a2, sm_eq (M := M) (by rw [wU_ne (by omega)]; exact h.1 333 (by omega)), whi, if_neg c2]
theorem p_wd {M M1 : wM} {J : wJ} {i j t : Nat} (h0 : M (3 * i) 0 = 0) (h1 : M (3 * j) 0 = 0) (h : I2 (wlo M t) (whi M t) M i j 6 M1) : pS M J i (wd M t (sv M i) (sv M j)) (M1, J) := by
  refine ⟨rfl, I2_kp h, ?_, ?_⟩
  · show bz (M1 (3 * i) 0)
    rw [I2_z h, h0]; exact bz_0
  · show sv M1 i = _
    rw [I2_sv h h0, sv_some h0, sv_some h1]; rfl
/-- the threshold v is there among the first t -/
def thIn (M : wM) (v : Int32) (t : Nat) : Prop := ∃ a, a < t ∧ M 333 a = v
def mnE (M : wM) (b : Nat) : Nat → wM
  | 0 => M
  | k + 1 => wU (mnE M b k) (3 * (5 + 4 * b + k)) 0 (nI 1)
/-- edges of a block that are dead, of the first n -/
def dedN (M : wM) (b : Nat) : Nat → Nat
  | 0 => 0
  | k + 1 => dedN M b k + (if M (3 * (5 + 4 * b + k)) 0 = 0 then 0 else 1)
theorem dedN_1 {M : wM} {b k : Nat} (h : M (3 * (5 + 4 * b + k)) 0 = 0) : dedN M b (k + 1) = dedN M b k := by
  show dedN M b k + (if M (3 * (5 + 4 * b + k)) 0 = 0 then 0 else 1) = _
  rw [if_pos h]; rfl
theorem dedN_2 {M : wM} {b k : Nat} (h : ¬ M (3 * (5 + 4 * b + k)) 0 = 0) : dedN M b (k + 1) = dedN M b k + 1 := by
  show dedN M b k + (if M (3 * (5 + 4 * b + k)) 0 = 0 then 0 else 1) = _
  rw [if_neg h]
theorem dedN_le (M : wM) (b : Nat) : ∀ k, dedN M b k ≤ k
  | 0 => Nat.le_refl 0
  | k + 1 => by
    have := dedN_le M b k
    show dedN M b k + (if M (3 * (5 + 4 * b + k)) 0 = 0 then 0 else 1) ≤ k + 1
    by_cases h : M (3 * (5 + 4 * b + k)) 0 = 0
    · rw [if_pos h]; omega
    · rw [if_neg h]; omega
def dedF (M : wM) (b n : Nat) : Nat := if M (3 * (3 + 4 * b)) 0 = 0 then dedN M b n else 0
end
section
/-! Settings, Flow: laid by wip/gen/specs5.py -/
set_option maxHeartbeats 4000000 in
set_option maxRecDepth 100000 in
theorem k_X6_greatestUpTo (l : Launch) (D : va_G) (ad : Nat → Nat) (cs : Nat → ClassId) (sz : Nat) (M : wM) (J : wJ) (v : Int32) (t : Nat) (ht : M 332 2 = nI t) (ht8 : t ≤ 8) : wCi l yX6_greatestUpTo wsX6_greatestUpTo { frames := 0, cells := 0, slots := 0, locals := 0 } D 340 cSh ad cs [.ref (ad 332), .int v] sz M J (fun r_ u_ => u_ = (M, J) ∧ r_ = gu M v t) := by
  refine wC_i (cc := cX6_greatestUpTo) (maxL := 4) (ret := (some .int)) (by decide) rfl (Nat.le_of_ble_eq_true rfl) ?_
  intro p e s m below meth c ls A hx hb hr hml hown hts hlocks hK hA hw hl hAe
  clear hAe
  have hl : lv_has ls 4 [(0, .ref (ad 332)), (1, .int v)] := hl
  have k40 : (Cond.constant RX6 40 (-1000000000)).before _ s = true := hts _ (by decide +kernel)
  have f18 : (Cond.fieldLink RX6 18 "RangePropagator$Settings" "thresholdCount" "I").before _ s = true := hts _ (by decide +kernel)
  have iX6 : ∀ w ∈ wsX60, w ∈ wsX6_greatestUpTo := by decide +kernel
  have f21 : (Cond.fieldLink RX6 21 "RangePropagator$Settings" "thresholds" "[I").before _ s = true := hts _ (by decide +kernel)
  refine lv_ldc hx hb hown k40 dX6_greatestUpTo_0 ?_
  refine lv_istore_n (lv' := [(2, .int ((-1000000000 : Int32))), (0, .ref (ad 332)), (1, .int v)]) hx hb dX6_greatestUpTo_2 rfl hl (by decide) rfl (fun ls hl => ?_)
  refine lv_iconst (v := nI 0) hx hb dX6_greatestUpTo_3 (by decide) ?_
  refine lv_istore_n (lv' := [(3, .int (nI 0)), (2, .int ((-1000000000 : Int32))), (0, .ref (ad 332)), (1, .int v)]) hx hb dX6_greatestUpTo_4 rfl hl (by decide) rfl (fun ls hl => ?_)
  refine w_loop (σ := Nat) (fun k M' J' ls => lv_has ls 4 [(0, .ref (ad 332)), (1, .int v), (2, .int (gu M v k)), (3, .int (nI k))] ∧ J' = J ∧ k ≤ t ∧ M' = M ∧ True) (fun k => t - k) (fun k M1 J1_ H locs ls hI hw ih2 => ?_) 0 ⟨lv_sub hl [2, 3, 1, 0] rfl, rfl, by omega, rfl, trivial⟩ hw
  obtain ⟨hl, eJ_, hk_, hI⟩ := hI
  rw [eJ_] at hw
  clear eJ_
  obtain ⟨eM_, hI⟩ := hI
  rw [eM_] at hw
  clear eM_
  refine lv_iload_n hx hb dX6_greatestUpTo_5 rfl (lv_at hl 3 rfl) ?_
  refine lv_aload_n hx hb dX6_greatestUpTo_6 rfl (lv_at hl 0 rfl) ?_
  refine wr_gi hx hb hown hK hts iX6 (ci := 5) rfl 2 (by decide) f18 rfl hw 332 (by omega) cs_T rfl dX6_greatestUpTo_7 ?_
  rw [show M 332 2 = nI t from ht]
  refine lv_icmp_ge (tgt := 46) hx hb dX6_greatestUpTo_10 (by decide) (fun q3 => ?_) (fun q3 => ?_)
  · have q3n : t ≤ k := (nI_leI (by omega) (by omega)).mp q3
    refine lv_iload_n hx hb dX6_greatestUpTo_46 rfl (lv_at hl 2 rfl) ?_
    exact wr_iret hx hb hr rfl hK hw ⟨rfl, by have e : k = t := (by omega); rw [e]⟩ hlocks dX6_greatestUpTo_47
  · have q3n : ¬ t ≤ k := fun z => q3 ((nI_leI (by omega) (by omega)).mpr z)
    refine lv_aload_n hx hb dX6_greatestUpTo_13 rfl (lv_at hl 0 rfl) ?_
    refine wr_gr hx hb hown hK hts iX6 (ci := 5) rfl 3 (by decide) f21 rfl hw 332 (by omega) 333 cs_T rfl dX6_greatestUpTo_14 ?_
    refine lv_iload_n hx hb dX6_greatestUpTo_17 rfl (lv_at hl 3 rfl) ?_
    refine wr_ildN hx hb hK hw 333 (by omega) cs_TT (by decide) k rfl (by omega) dX6_greatestUpTo_18 ?_
    refine lv_iload_n hx hb dX6_greatestUpTo_19 rfl (lv_at hl 1 rfl) ?_
    refine lv_icmp_gt (tgt := 40) hx hb dX6_greatestUpTo_20 (by decide) (fun q4 => ?_) (fun q4 => ?_)
    · skip
      refine lv_iinc (v := nI (k + 1)) (lv' := [(3, .int (nI (k + 1))), (0, .ref (ad 332)), (1, .int v), (2, .int (gu M v k))]) hx hb dX6_greatestUpTo_40 hl (k := 3) rfl (nI_1 _) (by decide) rfl (fun ls hl => ?_)
      refine lv_goto (tgt := 5) hx hb dX6_greatestUpTo_43 (by decide) ?_
      exact ih2 (k + 1) M J _ _ _ (by omega) ⟨(by rw [gu_1 q4]; exact lv_sub hl [1, 2, 3, 0] rfl), rfl, by omega, rfl, trivial⟩ hw
    · skip
      refine lv_aload_n hx hb dX6_greatestUpTo_23 rfl (lv_at hl 0 rfl) ?_
      refine wr_gr hx hb hown hK hts iX6 (ci := 5) rfl 3 (by decide) f21 rfl hw 332 (by omega) 333 cs_T rfl dX6_greatestUpTo_24 ?_
      refine lv_iload_n hx hb dX6_greatestUpTo_27 rfl (lv_at hl 3 rfl) ?_
      refine wr_ildN hx hb hK hw 333 (by omega) cs_TT (by decide) k rfl (by omega) dX6_greatestUpTo_28 ?_
      refine lv_iload_n hx hb dX6_greatestUpTo_29 rfl (lv_at hl 2 rfl) ?_
      refine lv_icmp_le (tgt := 40) hx hb dX6_greatestUpTo_30 (by decide) (fun q5 => ?_) (fun q5 => ?_)
      · skip
        refine lv_iinc (v := nI (k + 1)) (lv' := [(3, .int (nI (k + 1))), (0, .ref (ad 332)), (1, .int v), (2, .int (gu M v k))]) hx hb dX6_greatestUpTo_40 hl (k := 3) rfl (nI_1 _) (by decide) rfl (fun ls hl => ?_)
        refine lv_goto (tgt := 5) hx hb dX6_greatestUpTo_43 (by decide) ?_
        exact ih2 (k + 1) M J _ _ _ (by omega) ⟨(by rw [gu_2 q4 q5]; exact lv_sub hl [1, 2, 3, 0] rfl), rfl, by omega, rfl, trivial⟩ hw
      · skip
        refine lv_aload_n hx hb dX6_greatestUpTo_33 rfl (lv_at hl 0 rfl) ?_
        refine wr_gr hx hb hown hK hts iX6 (ci := 5) rfl 3 (by decide) f21 rfl hw 332 (by omega) 333 cs_T rfl dX6_greatestUpTo_34 ?_
        refine lv_iload_n hx hb dX6_greatestUpTo_37 rfl (lv_at hl 3 rfl) ?_
        refine wr_ildN hx hb hK hw 333 (by omega) cs_TT (by decide) k rfl (by omega) dX6_greatestUpTo_38 ?_
        refine lv_istore_n (lv' := [(2, .int (M 333 k)), (0, .ref (ad 332)), (1, .int v), (3, .int (nI k))]) hx hb dX6_greatestUpTo_39 rfl hl (by decide) rfl (fun ls hl => ?_)
        refine lv_iinc (v := nI (k + 1)) (lv' := [(3, .int (nI (k + 1))), (2, .int (M 333 k)), (0, .ref (ad 332)), (1, .int v)]) hx hb dX6_greatestUpTo_40 hl (k := 3) rfl (nI_1 _) (by decide) rfl (fun ls hl => ?_)
        refine lv_goto (tgt := 5) hx hb dX6_greatestUpTo_43 (by decide) ?_
        exact ih2 (k + 1) M J _ _ _ (by omega) ⟨(by rw [gu_3 q4 q5]; exact lv_sub hl [2, 3, 1, 0] rfl), rfl, by omega, rfl, trivial⟩ hw
set_option maxHeartbeats 4000000 in
set_option maxRecDepth 100000 in
theorem k_X6_smallestFrom (l : Launch) (D : va_G) (ad : Nat → Nat) (cs : Nat → ClassId) (sz : Nat) (M : wM) (J : wJ) (v : Int32) (t : Nat) (ht : M 332 2 = nI t) (ht8 : t ≤ 8) : wCi l yX6_smallestFrom wsX6_smallestFrom { frames := 0, cells := 0, slots := 0, locals := 0 } D 340 cSh ad cs [.ref (ad 332), .int v] sz M J (fun r_ u_ => u_ = (M, J) ∧ r_ = sm M v t) := by
  refine wC_i (cc := cX6_smallestFrom) (maxL := 4) (ret := (some .int)) (by decide) rfl (Nat.le_of_ble_eq_true rfl) ?_
  intro p e s m below meth c ls A hx hb hr hml hown hts hlocks hK hA hw hl hAe
  clear hAe
  have hl : lv_has ls 4 [(0, .ref (ad 332)), (1, .int v)] := hl
  have k41 : (Cond.constant RX6 41 (1000000000)).before _ s = true := hts _ (by decide +kernel)
  have f18 : (Cond.fieldLink RX6 18 "RangePropagator$Settings" "thresholdCount" "I").before _ s = true := hts _ (by decide +kernel)
  have iX6 : ∀ w ∈ wsX60, w ∈ wsX6_smallestFrom := by decide +kernel
  have f21 : (Cond.fieldLink RX6 21 "RangePropagator$Settings" "thresholds" "[I").before _ s = true := hts _ (by decide +kernel)
  refine lv_ldc hx hb hown k41 dX6_smallestFrom_0 ?_
  refine lv_istore_n (lv' := [(2, .int ((1000000000 : Int32))), (0, .ref (ad 332)), (1, .int v)]) hx hb dX6_smallestFrom_2 rfl hl (by decide) rfl (fun ls hl => ?_)
  refine lv_iconst (v := nI 0) hx hb dX6_smallestFrom_3 (by decide) ?_
  refine lv_istore_n (lv' := [(3, .int (nI 0)), (2, .int ((1000000000 : Int32))), (0, .ref (ad 332)), (1, .int v)]) hx hb dX6_smallestFrom_4 rfl hl (by decide) rfl (fun ls hl => ?_)
  refine w_loop (σ := Nat) (fun k M' J' ls => lv_has ls 4 [(0, .ref (ad 332)), (1, .int v), (2, .int (sm M v k)), (3, .int (nI k))] ∧ J' = J ∧ k ≤ t ∧ M' = M ∧ True) (fun k => t - k) (fun k M1 J1_ H locs ls hI hw ih2 => ?_) 0 ⟨lv_sub hl [2, 3, 1, 0] rfl, rfl, by omega, rfl, trivial⟩ hw
  obtain ⟨hl, eJ_, hk_, hI⟩ := hI
  rw [eJ_] at hw
  clear eJ_
  obtain ⟨eM_, hI⟩ := hI
  rw [eM_] at hw
  clear eM_
  refine lv_iload_n hx hb dX6_smallestFrom_5 rfl (lv_at hl 3 rfl) ?_
  refine lv_aload_n hx hb dX6_smallestFrom_6 rfl (lv_at hl 0 rfl) ?_
  refine wr_gi hx hb hown hK hts iX6 (ci := 5) rfl 2 (by decide) f18 rfl hw 332 (by omega) cs_T rfl dX6_smallestFrom_7 ?_
  rw [show M 332 2 = nI t from ht]
  refine lv_icmp_ge (tgt := 46) hx hb dX6_smallestFrom_10 (by decide) (fun q3 => ?_) (fun q3 => ?_)
  · have q3n : t ≤ k := (nI_leI (by omega) (by omega)).mp q3
    refine lv_iload_n hx hb dX6_smallestFrom_46 rfl (lv_at hl 2 rfl) ?_
    exact wr_iret hx hb hr rfl hK hw ⟨rfl, by have e : k = t := (by omega); rw [e]⟩ hlocks dX6_smallestFrom_47
  · have q3n : ¬ t ≤ k := fun z => q3 ((nI_leI (by omega) (by omega)).mpr z)
    refine lv_aload_n hx hb dX6_smallestFrom_13 rfl (lv_at hl 0 rfl) ?_
    refine wr_gr hx hb hown hK hts iX6 (ci := 5) rfl 3 (by decide) f21 rfl hw 332 (by omega) 333 cs_T rfl dX6_smallestFrom_14 ?_
    refine lv_iload_n hx hb dX6_smallestFrom_17 rfl (lv_at hl 3 rfl) ?_
    refine wr_ildN hx hb hK hw 333 (by omega) cs_TT (by decide) k rfl (by omega) dX6_smallestFrom_18 ?_
    refine lv_iload_n hx hb dX6_smallestFrom_19 rfl (lv_at hl 1 rfl) ?_
    refine lv_icmp_lt (tgt := 40) hx hb dX6_smallestFrom_20 (by decide) (fun q4 => ?_) (fun q4 => ?_)
    · skip
      refine lv_iinc (v := nI (k + 1)) (lv' := [(3, .int (nI (k + 1))), (0, .ref (ad 332)), (1, .int v), (2, .int (sm M v k))]) hx hb dX6_smallestFrom_40 hl (k := 3) rfl (nI_1 _) (by decide) rfl (fun ls hl => ?_)
      refine lv_goto (tgt := 5) hx hb dX6_smallestFrom_43 (by decide) ?_
      exact ih2 (k + 1) M J _ _ _ (by omega) ⟨(by rw [sm_1 q4]; exact lv_sub hl [1, 2, 3, 0] rfl), rfl, by omega, rfl, trivial⟩ hw
    · skip
      refine lv_aload_n hx hb dX6_smallestFrom_23 rfl (lv_at hl 0 rfl) ?_
      refine wr_gr hx hb hown hK hts iX6 (ci := 5) rfl 3 (by decide) f21 rfl hw 332 (by omega) 333 cs_T rfl dX6_smallestFrom_24 ?_
      refine lv_iload_n hx hb dX6_smallestFrom_27 rfl (lv_at hl 3 rfl) ?_
      refine wr_ildN hx hb hK hw 333 (by omega) cs_TT (by decide) k rfl (by omega) dX6_smallestFrom_28 ?_
      refine lv_iload_n hx hb dX6_smallestFrom_29 rfl (lv_at hl 2 rfl) ?_
      refine lv_icmp_ge (tgt := 40) hx hb dX6_smallestFrom_30 (by decide) (fun q5 => ?_) (fun q5 => ?_)
      · skip
        refine lv_iinc (v := nI (k + 1)) (lv' := [(3, .int (nI (k + 1))), (0, .ref (ad 332)), (1, .int v), (2, .int (sm M v k))]) hx hb dX6_smallestFrom_40 hl (k := 3) rfl (nI_1 _) (by decide) rfl (fun ls hl => ?_)
        refine lv_goto (tgt := 5) hx hb dX6_smallestFrom_43 (by decide) ?_
        exact ih2 (k + 1) M J _ _ _ (by omega) ⟨(by rw [sm_2 q4 q5]; exact lv_sub hl [1, 2, 3, 0] rfl), rfl, by omega, rfl, trivial⟩ hw
      · skip
        refine lv_aload_n hx hb dX6_smallestFrom_33 rfl (lv_at hl 0 rfl) ?_
        refine wr_gr hx hb hown hK hts iX6 (ci := 5) rfl 3 (by decide) f21 rfl hw 332 (by omega) 333 cs_T rfl dX6_smallestFrom_34 ?_
        refine lv_iload_n hx hb dX6_smallestFrom_37 rfl (lv_at hl 3 rfl) ?_
        refine wr_ildN hx hb hK hw 333 (by omega) cs_TT (by decide) k rfl (by omega) dX6_smallestFrom_38 ?_
        refine lv_istore_n (lv' := [(2, .int (M 333 k)), (0, .ref (ad 332)), (1, .int v), (3, .int (nI k))]) hx hb dX6_smallestFrom_39 rfl hl (by decide) rfl (fun ls hl => ?_)
        refine lv_iinc (v := nI (k + 1)) (lv' := [(3, .int (nI (k + 1))), (2, .int (M 333 k)), (0, .ref (ad 332)), (1, .int v)]) hx hb dX6_smallestFrom_40 hl (k := 3) rfl (nI_1 _) (by decide) rfl (fun ls hl => ?_)
        refine lv_goto (tgt := 5) hx hb dX6_smallestFrom_43 (by decide) ?_
        exact ih2 (k + 1) M J _ _ _ (by omega) ⟨(by rw [sm_3 q4 q5]; exact lv_sub hl [2, 3, 1, 0] rfl), rfl, by omega, rfl, trivial⟩ hw
set_option maxHeartbeats 4000000 in
set_option maxRecDepth 100000 in
theorem k_X6_widen (l : Launch) (D : va_G) (ad : Nat → Nat) (cs : Nat → ClassId) (sz : Nat) (M : wM) (J : wJ) (i : Nat) (j : Nat) (t : Nat) (hi : i < 67) (hj : j < 67) (hij : i ≠ j) (ht : M 332 2 = nI t) (ht8 : t ≤ 8) (z0 : M (3 * i) 0 = 0) (z1 : M (3 * j) 0 = 0) : wCv l yX6_widen wsX6_widen { frames := 1, cells := 0, slots := 0, locals := 23 } D 340 cSh ad cs [.ref (ad 332), .ref (ad (3 * i)), .ref (ad (3 * j))] sz M J (pS M J i (wd M t (sv M i) (sv M j))) := by
  refine wC_v (cc := cX6_widen) (maxL := 4) (ret := none) (by decide) rfl (Nat.le_of_ble_eq_true rfl) ?_
  intro p e s m below meth c ls A hx hb hr hml hown hts hlocks hK hA hw hl hAe
  clear hAe
  have hl : lv_has ls 4 [(0, .ref (ad 332)), (1, .ref (ad (3 * i))), (2, .ref (ad (3 * j)))] := hl
  have f25 : (Cond.fieldLink RX6 25 "RangePropagator$State" "low" "[I").before _ s = true := hts _ (by decide +kernel)
  have iX7 : ∀ w ∈ wsX70, w ∈ wsX6_widen := by decide +kernel
  have f34 : (Cond.fieldLink RX6 34 "RangePropagator$State" "high" "[I").before _ s = true := hts _ (by decide +kernel)
  refine lv_iconst (v := nI 0) hx hb dX6_widen_0 (by decide) ?_
  refine lv_istore_n (lv' := [(3, .int (nI 0)), (0, .ref (ad 332)), (1, .ref (ad (3 * i))), (2, .ref (ad (3 * j)))]) hx hb dX6_widen_1 rfl hl (by decide) rfl (fun ls hl => ?_)
  refine w_loop (σ := Nat) (fun k M' J' ls => lv_has ls 4 [(0, .ref (ad 332)), (1, .ref (ad (3 * i))), (2, .ref (ad (3 * j))), (3, .int (nI k))] ∧ J' = J ∧ k ≤ 6 ∧ I2 (wlo M t) (whi M t) M i j k M') (fun k => 6 - k) (fun k M1 J1_ H locs ls hI hw ih2 => ?_) 0 ⟨lv_sub hl [1, 2, 3, 0] rfl, rfl, by omega, I2_0⟩ hw
  obtain ⟨hl, eJ_, hk_, hI⟩ := hI
  rw [eJ_] at hw
  clear eJ_
  refine lv_iload_n hx hb dX6_widen_2 rfl (lv_at hl 3 rfl) ?_
  refine lv_bipush (v := nI 6) hx hb dX6_widen_3 (by decide) ?_
  refine lv_icmp_ge (tgt := 76) hx hb dX6_widen_5 (by decide) (fun q3 => ?_) (fun q3 => ?_)
  · have q3n : 6 ≤ k := (nI_leI (by omega) (by omega)).mp q3
    exact wr_vret hx hb hr hK hw (by have e : k = 6 := (by omega); subst e; exact p_wd z0 z1 hI) hlocks dX6_widen_76
  · have q3n : ¬ 6 ≤ k := fun z => q3 ((nI_leI (by omega) (by omega)).mpr z)
    refine lv_aload_n hx hb dX6_widen_8 rfl (lv_at hl 1 rfl) ?_
    refine wr_gr hx hb hown hK hts iX7 (ci := 6) rfl 1 (by decide) f25 rfl hw (3 * i) (by omega) (3 * i + 1) (cs_S (by omega)) rfl dX6_widen_9 ?_
    refine lv_iload_n hx hb dX6_widen_12 rfl (lv_at hl 3 rfl) ?_
    refine wr_ildN hx hb hK hw (3 * i + 1) (by omega) (cs_SL (by omega)) (by decide) k rfl (by omega) dX6_widen_13 ?_
    refine lv_aload_n hx hb dX6_widen_14 rfl (lv_at hl 2 rfl) ?_
    refine wr_gr hx hb hown hK hts iX7 (ci := 6) rfl 1 (by decide) f25 rfl hw (3 * j) (by omega) (3 * j + 1) (cs_S (by omega)) rfl dX6_widen_15 ?_
    refine lv_iload_n hx hb dX6_widen_18 rfl (lv_at hl 3 rfl) ?_
    refine wr_ildN hx hb hK hw (3 * j + 1) (by omega) (cs_SL (by omega)) (by decide) k rfl (by omega) dX6_widen_19 ?_
    refine lv_icmp_ge (tgt := 39) hx hb dX6_widen_20 (by decide) (fun q4 => ?_) (fun q4 => ?_)
    · skip
      refine lv_aload_n hx hb dX6_widen_39 rfl (lv_at hl 1 rfl) ?_
      refine wr_gr hx hb hown hK hts iX7 (ci := 6) rfl 2 (by decide) f34 rfl hw (3 * i) (by omega) (3 * i + 2) (cs_S (by omega)) rfl dX6_widen_40 ?_
      refine lv_iload_n hx hb dX6_widen_43 rfl (lv_at hl 3 rfl) ?_
      refine wr_ildN hx hb hK hw (3 * i + 2) (by omega) (cs_SH (by omega)) (by decide) k rfl (by omega) dX6_widen_44 ?_
      refine lv_aload_n hx hb dX6_widen_45 rfl (lv_at hl 2 rfl) ?_
      refine wr_gr hx hb hown hK hts iX7 (ci := 6) rfl 2 (by decide) f34 rfl hw (3 * j) (by omega) (3 * j + 2) (cs_S (by omega)) rfl dX6_widen_46 ?_
      refine lv_iload_n hx hb dX6_widen_49 rfl (lv_at hl 3 rfl) ?_
      refine wr_ildN hx hb hK hw (3 * j + 2) (by omega) (cs_SH (by omega)) (by decide) k rfl (by omega) dX6_widen_50 ?_
      refine lv_icmp_le (tgt := 70) hx hb dX6_widen_51 (by decide) (fun q5 => ?_) (fun q5 => ?_)
      · skip
        refine lv_iinc (v := nI (k + 1)) (lv' := [(3, .int (nI (k + 1))), (0, .ref (ad 332)), (1, .ref (ad (3 * i))), (2, .ref (ad (3 * j)))]) hx hb dX6_widen_70 hl (k := 3) rfl (nI_1 _) (by decide) rfl (fun ls hl => ?_)
        refine lv_goto (tgt := 2) hx hb dX6_widen_73 (by decide) ?_
        exact ih2 (k + 1) M1 J _ _ _ (by omega) ⟨lv_sub hl [1, 2, 3, 0] rfl, rfl, by omega, Iw_1 hij hI q4 q5⟩ hw
      · skip
        refine lv_aload_n hx hb dX6_widen_54 rfl (lv_at hl 1 rfl) ?_
        refine wr_gr hx hb hown hK hts iX7 (ci := 6) rfl 2 (by decide) f34 rfl hw (3 * i) (by omega) (3 * i + 2) (cs_S (by omega)) rfl dX6_widen_55 ?_
        refine lv_iload_n hx hb dX6_widen_58 rfl (lv_at hl 3 rfl) ?_
        refine lv_aload_n hx hb dX6_widen_59 rfl (lv_at hl 0 rfl) ?_
        refine lv_aload_n hx hb dX6_widen_60 rfl (lv_at hl 1 rfl) ?_
        refine wr_gr hx hb hown hK hts iX7 (ci := 6) rfl 2 (by decide) f34 rfl hw (3 * i) (by omega) (3 * i + 2) (cs_S (by omega)) rfl dX6_widen_61 ?_
        refine lv_iload_n hx hb dX6_widen_64 rfl (lv_at hl 3 rfl) ?_
        refine wr_ildN hx hb hK hw (3 * i + 2) (by omega) (cs_SH (by omega)) (by decide) k rfl (by omega) dX6_widen_65 ?_
        refine wr_cVi (k := 332) (ci := 5) (As := [.int (M1 (3 * i + 2) k)]) (rest := [.int (nI k), .ref (ad (3 * i + 2))]) ⟨hx, hb, hml, hown, hts⟩ (cwV 1 hts gX6_widen_X6_smallestFrom rfl rfl rfl (by decide +kernel) ⟨Nat.le_of_ble_eq_true rfl, Nat.le_of_ble_eq_true rfl⟩) hK hA hw (k_X6_smallestFrom l D ad cs H.size M1 J (M1 (3 * i + 2) k) t ((congrFun (show M1 332 = M 332 from hI.1 332 (by omega)) 2).trans ht) (by omega)) (by omega) cs_T rfl rfl rfl hl.1 (Nat.le_of_ble_eq_true rfl) ⟨Nat.le_of_ble_eq_true rfl, Nat.le_of_ble_eq_true rfl⟩ dX6_widen_66 (fun r6 M7 J8 H locs h9 hw => ?_)
        obtain ⟨h9, rfl⟩ := h9
        cases h9
        refine wr_istN hx hb hK hw (3 * i + 2) (by omega) (cs_SH (by omega)) (by decide) k rfl (by omega) dX6_widen_69 (fun H locs hw => ?_)
        refine lv_iinc (v := nI (k + 1)) (lv' := [(3, .int (nI (k + 1))), (0, .ref (ad 332)), (1, .ref (ad (3 * i))), (2, .ref (ad (3 * j)))]) hx hb dX6_widen_70 hl (k := 3) rfl (nI_1 _) (by decide) rfl (fun ls hl => ?_)
        refine lv_goto (tgt := 2) hx hb dX6_widen_73 (by decide) ?_
        exact ih2 (k + 1) (wU M1 (3 * i + 2) k (sm M1 (M1 (3 * i + 2) k) t)) J _ _ _ (by omega) ⟨lv_sub hl [1, 2, 3, 0] rfl, rfl, by omega, Iw_3 hi hij hI q4 q5⟩ hw
    · skip
      refine lv_aload_n hx hb dX6_widen_23 rfl (lv_at hl 1 rfl) ?_
      refine wr_gr hx hb hown hK hts iX7 (ci := 6) rfl 1 (by decide) f25 rfl hw (3 * i) (by omega) (3 * i + 1) (cs_S (by omega)) rfl dX6_widen_24 ?_
      refine lv_iload_n hx hb dX6_widen_27 rfl (lv_at hl 3 rfl) ?_
      refine lv_aload_n hx hb dX6_widen_28 rfl (lv_at hl 0 rfl) ?_
      refine lv_aload_n hx hb dX6_widen_29 rfl (lv_at hl 1 rfl) ?_
      refine wr_gr hx hb hown hK hts iX7 (ci := 6) rfl 1 (by decide) f25 rfl hw (3 * i) (by omega) (3 * i + 1) (cs_S (by omega)) rfl dX6_widen_30 ?_
      refine lv_iload_n hx hb dX6_widen_33 rfl (lv_at hl 3 rfl) ?_
      refine wr_ildN hx hb hK hw (3 * i + 1) (by omega) (cs_SL (by omega)) (by decide) k rfl (by omega) dX6_widen_34 ?_
      refine wr_cVi (k := 332) (ci := 5) (As := [.int (M1 (3 * i + 1) k)]) (rest := [.int (nI k), .ref (ad (3 * i + 1))]) ⟨hx, hb, hml, hown, hts⟩ (cwV 1 hts gX6_widen_X6_greatestUpTo rfl rfl rfl (by decide +kernel) ⟨Nat.le_of_ble_eq_true rfl, Nat.le_of_ble_eq_true rfl⟩) hK hA hw (k_X6_greatestUpTo l D ad cs H.size M1 J (M1 (3 * i + 1) k) t ((congrFun (show M1 332 = M 332 from hI.1 332 (by omega)) 2).trans ht) (by omega)) (by omega) cs_T rfl rfl rfl hl.1 (Nat.le_of_ble_eq_true rfl) ⟨Nat.le_of_ble_eq_true rfl, Nat.le_of_ble_eq_true rfl⟩ dX6_widen_35 (fun r10 M11 J12 H locs h13 hw => ?_)
      obtain ⟨h13, rfl⟩ := h13
      cases h13
      refine wr_istN hx hb hK hw (3 * i + 1) (by omega) (cs_SL (by omega)) (by decide) k rfl (by omega) dX6_widen_38 (fun H locs hw => ?_)
      refine lv_aload_n hx hb dX6_widen_39 rfl (lv_at hl 1 rfl) ?_
      refine wr_gr hx hb hown hK hts iX7 (ci := 6) rfl 2 (by decide) f34 rfl hw (3 * i) (by omega) (3 * i + 2) (cs_S (by omega)) rfl dX6_widen_40 ?_
      refine lv_iload_n hx hb dX6_widen_43 rfl (lv_at hl 3 rfl) ?_
      refine wr_ildN hx hb hK hw (3 * i + 2) (by omega) (cs_SH (by omega)) (by decide) k rfl (by omega) dX6_widen_44 ?_
      refine lv_aload_n hx hb dX6_widen_45 rfl (lv_at hl 2 rfl) ?_
      refine wr_gr hx hb hown hK hts iX7 (ci := 6) rfl 2 (by decide) f34 rfl hw (3 * j) (by omega) (3 * j + 2) (cs_S (by omega)) rfl dX6_widen_46 ?_
      refine lv_iload_n hx hb dX6_widen_49 rfl (lv_at hl 3 rfl) ?_
      refine wr_ildN hx hb hK hw (3 * j + 2) (by omega) (cs_SH (by omega)) (by decide) k rfl (by omega) dX6_widen_50 ?_
      refine lv_icmp_le (tgt := 70) hx hb dX6_widen_51 (by decide) (fun q14 => ?_) (fun q14 => ?_)
      · skip
        refine lv_iinc (v := nI (k + 1)) (lv' := [(3, .int (nI (k + 1))), (0, .ref (ad 332)), (1, .ref (ad (3 * i))), (2, .ref (ad (3 * j)))]) hx hb dX6_widen_70 hl (k := 3) rfl (nI_1 _) (by decide) rfl (fun ls hl => ?_)
        refine lv_goto (tgt := 2) hx hb dX6_widen_73 (by decide) ?_
        exact ih2 (k + 1) (wU M1 (3 * i + 1) k (gu M1 (M1 (3 * i + 1) k) t)) J _ _ _ (by omega) ⟨lv_sub hl [1, 2, 3, 0] rfl, rfl, by omega, Iw_2 hi hij hI q4 q14⟩ hw
      · skip
        refine lv_aload_n hx hb dX6_widen_54 rfl (lv_at hl 1 rfl) ?_
        refine wr_gr hx hb hown hK hts iX7 (ci := 6) rfl 2 (by decide) f34 rfl hw (3 * i) (by omega) (3 * i + 2) (cs_S (by omega)) rfl dX6_widen_55 ?_
        refine lv_iload_n hx hb dX6_widen_58 rfl (lv_at hl 3 rfl) ?_
        refine lv_aload_n hx hb dX6_widen_59 rfl (lv_at hl 0 rfl) ?_
        refine lv_aload_n hx hb dX6_widen_60 rfl (lv_at hl 1 rfl) ?_
        refine wr_gr hx hb hown hK hts iX7 (ci := 6) rfl 2 (by decide) f34 rfl hw (3 * i) (by omega) (3 * i + 2) (cs_S (by omega)) rfl dX6_widen_61 ?_
        refine lv_iload_n hx hb dX6_widen_64 rfl (lv_at hl 3 rfl) ?_
        refine wr_ildN hx hb hK hw (3 * i + 2) (by omega) (cs_SH (by omega)) (by decide) k rfl (by omega) dX6_widen_65 ?_
        refine wr_cVi (k := 332) (ci := 5) (As := [.int ((wU M1 (3 * i + 1) k (gu M1 (M1 (3 * i + 1) k) t)) (3 * i + 2) k)]) (rest := [.int (nI k), .ref (ad (3 * i + 2))]) ⟨hx, hb, hml, hown, hts⟩ (cwV 1 hts gX6_widen_X6_smallestFrom rfl rfl rfl (by decide +kernel) ⟨Nat.le_of_ble_eq_true rfl, Nat.le_of_ble_eq_true rfl⟩) hK hA hw (k_X6_smallestFrom l D ad cs H.size (wU M1 (3 * i + 1) k (gu M1 (M1 (3 * i + 1) k) t)) J ((wU M1 (3 * i + 1) k (gu M1 (M1 (3 * i + 1) k) t)) (3 * i + 2) k) t ((congrFun (show (wU M1 (3 * i + 1) k (gu M1 (M1 (3 * i + 1) k) t)) 332 = M 332 from (wU_ne (by omega)).trans (hI.1 332 (by omega))) 2).trans ht) (by omega)) (by omega) cs_T rfl rfl rfl hl.1 (Nat.le_of_ble_eq_true rfl) ⟨Nat.le_of_ble_eq_true rfl, Nat.le_of_ble_eq_true rfl⟩ dX6_widen_66 (fun r15 M16 J17 H locs h18 hw => ?_)
        obtain ⟨h18, rfl⟩ := h18
        cases h18
        refine wr_istN hx hb hK hw (3 * i + 2) (by omega) (cs_SH (by omega)) (by decide) k rfl (by omega) dX6_widen_69 (fun H locs hw => ?_)
        refine lv_iinc (v := nI (k + 1)) (lv' := [(3, .int (nI (k + 1))), (0, .ref (ad 332)), (1, .ref (ad (3 * i))), (2, .ref (ad (3 * j)))]) hx hb dX6_widen_70 hl (k := 3) rfl (nI_1 _) (by decide) rfl (fun ls hl => ?_)
        refine lv_goto (tgt := 2) hx hb dX6_widen_73 (by decide) ?_
        exact ih2 (k + 1) (wU (wU M1 (3 * i + 1) k (gu M1 (M1 (3 * i + 1) k) t)) (3 * i + 2) k (sm (wU M1 (3 * i + 1) k (gu M1 (M1 (3 * i + 1) k) t)) ((wU M1 (3 * i + 1) k (gu M1 (M1 (3 * i + 1) k) t)) (3 * i + 2) k) t)) J _ _ _ (by omega) ⟨lv_sub hl [1, 2, 3, 0] rfl, rfl, by omega, Iw_4 hi hij hI q4 q14⟩ hw
set_option maxHeartbeats 4000000 in
set_option maxRecDepth 100000 in
theorem k_X6_keepThreshold (l : Launch) (D : va_G) (ad : Nat → Nat) (cs : Nat → ClassId) (sz : Nat) (M : wM) (J : wJ) (v : Int32) (t : Nat) (ht : M 332 2 = nI t) (ht8 : t < 8) : wCv l yX6_keepThreshold wsX6_keepThreshold { frames := 0, cells := 0, slots := 0, locals := 0 } D 340 cSh ad cs [.ref (ad 332), .int v] sz M J (fun u_ => (thIn M v t ∧ u_ = (M, J)) ∨ (¬ thIn M v t ∧ u_ = (wU (wU M 333 t v) 332 2 (nI (t + 1)), J))) := by
  refine wC_v (cc := cX6_keepThreshold) (maxL := 3) (ret := none) (by decide) rfl (Nat.le_of_ble_eq_true rfl) ?_
  intro p e s m below meth c ls A hx hb hr hml hown hts hlocks hK hA hw hl hAe
  clear hAe
  have hl : lv_has ls 3 [(0, .ref (ad 332)), (1, .int v)] := hl
  have f18 : (Cond.fieldLink RX6 18 "RangePropagator$Settings" "thresholdCount" "I").before _ s = true := hts _ (by decide +kernel)
  have iX6 : ∀ w ∈ wsX60, w ∈ wsX6_keepThreshold := by decide +kernel
  have f21 : (Cond.fieldLink RX6 21 "RangePropagator$Settings" "thresholds" "[I").before _ s = true := hts _ (by decide +kernel)
  refine lv_iconst (v := nI 0) hx hb dX6_keepThreshold_0 (by decide) ?_
  refine lv_istore_n (lv' := [(2, .int (nI 0)), (0, .ref (ad 332)), (1, .int v)]) hx hb dX6_keepThreshold_1 rfl hl (by decide) rfl (fun ls hl => ?_)
  refine w_loop (σ := Nat) (fun k M' J' ls => lv_has ls 3 [(0, .ref (ad 332)), (1, .int v), (2, .int (nI k))] ∧ J' = J ∧ k ≤ t ∧ M' = M ∧ (∀ a, a < k → ¬ M 333 a = v)) (fun k => t - k) (fun k M1 J1_ H locs ls hI hw ih2 => ?_) 0 ⟨lv_sub hl [1, 2, 0] rfl, rfl, by omega, rfl, (fun a h => absurd h (Nat.not_lt_zero a))⟩ hw
  obtain ⟨hl, eJ_, hk_, hI⟩ := hI
  rw [eJ_] at hw
  clear eJ_
  obtain ⟨eM_, hI⟩ := hI
  rw [eM_] at hw
  clear eM_
  refine lv_iload_n hx hb dX6_keepThreshold_2 rfl (lv_at hl 2 rfl) ?_
  refine lv_aload_n hx hb dX6_keepThreshold_3 rfl (lv_at hl 0 rfl) ?_
  refine wr_gi hx hb hown hK hts iX6 (ci := 5) rfl 2 (by decide) f18 rfl hw 332 (by omega) cs_T rfl dX6_keepThreshold_4 ?_
  rw [show M 332 2 = nI t from ht]
  refine lv_icmp_ge (tgt := 27) hx hb dX6_keepThreshold_7 (by decide) (fun q3 => ?_) (fun q3 => ?_)
  · have q3n : t ≤ k := (nI_leI (by omega) (by omega)).mp q3
    refine lv_aload_n hx hb dX6_keepThreshold_27 rfl (lv_at hl 0 rfl) ?_
    refine wr_gi hx hb hown hK hts iX6 (ci := 5) rfl 2 (by decide) f18 rfl hw 332 (by omega) cs_T rfl dX6_keepThreshold_28 ?_
    rw [show M 332 2 = nI t from ht]
    refine lv_bipush (v := nI 8) hx hb dX6_keepThreshold_31 (by decide) ?_
    refine lv_icmp_ge (tgt := 56) hx hb dX6_keepThreshold_33 (by decide) (fun q4 => ?_) (fun q4 => ?_)
    · have q4n : 8 ≤ t := (nI_leI (by omega) (by omega)).mp q4
      exfalso; omega
    · have q4n : ¬ 8 ≤ t := fun z => q4 ((nI_leI (by omega) (by omega)).mpr z)
      refine lv_aload_n hx hb dX6_keepThreshold_36 rfl (lv_at hl 0 rfl) ?_
      refine wr_gr hx hb hown hK hts iX6 (ci := 5) rfl 3 (by decide) f21 rfl hw 332 (by omega) 333 cs_T rfl dX6_keepThreshold_37 ?_
      refine lv_aload_n hx hb dX6_keepThreshold_40 rfl (lv_at hl 0 rfl) ?_
      refine wr_gi hx hb hown hK hts iX6 (ci := 5) rfl 2 (by decide) f18 rfl hw 332 (by omega) cs_T rfl dX6_keepThreshold_41 ?_
      rw [show M 332 2 = nI t from ht]
      refine lv_iload_n hx hb dX6_keepThreshold_44 rfl (lv_at hl 1 rfl) ?_
      refine wr_istN hx hb hK hw 333 (by omega) cs_TT (by decide) t rfl (by omega) dX6_keepThreshold_45 (fun H locs hw => ?_)
      refine lv_aload_n hx hb dX6_keepThreshold_46 rfl (lv_at hl 0 rfl) ?_
      refine lv_dup hx hb dX6_keepThreshold_47 rfl ?_
      refine wr_gi hx hb hown hK hts iX6 (ci := 5) rfl 2 (by decide) f18 rfl hw 332 (by omega) cs_T rfl dX6_keepThreshold_48 ?_
      rw [show (wU M 333 t v) 332 2 = nI t from ((congrFun (wU_ne (by decide)) 2).trans ht)]
      refine lv_iconst (v := nI 1) hx hb dX6_keepThreshold_51 (by decide) ?_
      refine lv_iaddN hx hb dX6_keepThreshold_52 ?_
      refine wr_pi hx hb hown hK hts iX6 tyX6_ok nmX6 (ci := 5) rfl 2 (by decide) f18 rfl rfl hw 332 (by omega) cs_T rfl rfl rfl dX6_keepThreshold_53 (fun H locs hw => ?_)
      exact wr_vret hx hb hr hK hw (Or.inr ⟨fun z => (by obtain ⟨a, h1, h2⟩ := z; exact hI a (by omega) h2), rfl⟩) hlocks dX6_keepThreshold_56
  · have q3n : ¬ t ≤ k := fun z => q3 ((nI_leI (by omega) (by omega)).mpr z)
    refine lv_aload_n hx hb dX6_keepThreshold_10 rfl (lv_at hl 0 rfl) ?_
    refine wr_gr hx hb hown hK hts iX6 (ci := 5) rfl 3 (by decide) f21 rfl hw 332 (by omega) 333 cs_T rfl dX6_keepThreshold_11 ?_
    refine lv_iload_n hx hb dX6_keepThreshold_14 rfl (lv_at hl 2 rfl) ?_
    refine wr_ildN hx hb hK hw 333 (by omega) cs_TT (by decide) k rfl (by omega) dX6_keepThreshold_15 ?_
    refine lv_iload_n hx hb dX6_keepThreshold_16 rfl (lv_at hl 1 rfl) ?_
    refine lv_icmp_ne (tgt := 21) hx hb dX6_keepThreshold_17 (by decide) (fun q5 => ?_) (fun q5 => ?_)
    · skip
      refine lv_iinc (v := nI (k + 1)) (lv' := [(2, .int (nI (k + 1))), (0, .ref (ad 332)), (1, .int v)]) hx hb dX6_keepThreshold_21 hl (k := 2) rfl (nI_1 _) (by decide) rfl (fun ls hl => ?_)
      refine lv_goto (tgt := 2) hx hb dX6_keepThreshold_24 (by decide) ?_
      exact ih2 (k + 1) M J _ _ _ (by omega) ⟨lv_sub hl [1, 2, 0] rfl, rfl, by omega, rfl, (fun a h => by rcases Nat.lt_succ_iff_lt_or_eq.mp h with q | q; exact hI a q; rw [q]; exact q5)⟩ hw
    · skip
      exact wr_vret hx hb hr hK hw (Or.inl ⟨⟨k, by omega, q5⟩, rfl⟩) hlocks dX6_keepThreshold_20
set_option maxHeartbeats 4000000 in
set_option maxRecDepth 100000 in
theorem k_X4_makeNone (l : Launch) (D : va_G) (ad : Nat → Nat) (cs : Nat → ClassId) (sz : Nat) (M : wM) (J : wJ) (b : Nat) (hb16 : b < 16) : wCv l yX4_makeNone wsX4_makeNone { frames := 0, cells := 0, slots := 0, locals := 0 } D 340 cSh ad cs [.ref (ad (297 + 2 * b))] sz M J (fun u_ => u_ = (mnE (wU (wU (wU M (297 + 2 * b) 3 (nI 0)) (3 * (3 + 4 * b)) 0 (nI 1)) (3 * (4 + 4 * b)) 0 (nI 1)) b 2, J)) := by
  refine wC_v (cc := cX4_makeNone) (maxL := 2) (ret := none) (by decide) rfl (Nat.le_of_ble_eq_true rfl) ?_
  intro p e s m below meth c ls A hx hb hr hml hown hts hlocks hK hA hw hl hAe
  clear hAe
  have hl : lv_has ls 2 [(0, .ref (ad (297 + 2 * b)))] := hl
  have f25 : (Cond.fieldLink RX4 25 "RangePropagator$Flow" "visitCount" "I").before _ s = true := hts _ (by decide +kernel)
  have iX4 : ∀ w ∈ wsX40, w ∈ wsX4_makeNone := by decide +kernel
  have f12 : (Cond.fieldLink RX4 12 "RangePropagator$Flow" "entryState" "LRangePropagator$State;").before _ s = true := hts _ (by decide +kernel)
  have f29 : (Cond.fieldLink RX4 29 "RangePropagator$State" "isNone" "Z").before _ s = true := hts _ (by decide +kernel)
  have iX7 : ∀ w ∈ wsX70, w ∈ wsX4_makeNone := by decide +kernel
  have f18 : (Cond.fieldLink RX4 18 "RangePropagator$Flow" "exitState" "LRangePropagator$State;").before _ s = true := hts _ (by decide +kernel)
  have f21 : (Cond.fieldLink RX4 21 "RangePropagator$Flow" "edgeStates" "[LRangePropagator$State;").before _ s = true := hts _ (by decide +kernel)
  refine lv_aload_n hx hb dX4_makeNone_0 rfl (lv_at hl 0 rfl) ?_
  refine lv_iconst (v := nI 0) hx hb dX4_makeNone_1 (by decide) ?_
  refine wr_pi hx hb hown hK hts iX4 tyX4_ok nmX4 (ci := 3) rfl 3 (by decide) f25 rfl rfl hw (297 + 2 * b) (by omega) (cs_F (by omega)) rfl rfl rfl dX4_makeNone_2 (fun H locs hw => ?_)
  refine lv_aload_n hx hb dX4_makeNone_5 rfl (lv_at hl 0 rfl) ?_
  refine wr_gr hx hb hown hK hts iX4 (ci := 3) rfl 0 (by decide) f12 rfl hw (297 + 2 * b) (by omega) (3 * (3 + 4 * b)) (cs_F (by omega)) rfl dX4_makeNone_6 ?_
  refine lv_iconst (v := nI 1) hx hb dX4_makeNone_9 (by decide) ?_
  refine wr_pi hx hb hown hK hts iX7 tyX7_ok nmX7 (ci := 6) rfl 0 (by decide) f29 rfl rfl hw (3 * (3 + 4 * b)) (by omega) (cs_S (by omega)) rfl (by decide) (by decide) dX4_makeNone_10 (fun H locs hw => ?_)
  refine lv_aload_n hx hb dX4_makeNone_13 rfl (lv_at hl 0 rfl) ?_
  refine wr_gr hx hb hown hK hts iX4 (ci := 3) rfl 1 (by decide) f18 rfl hw (297 + 2 * b) (by omega) (3 * (4 + 4 * b)) (cs_F (by omega)) rfl dX4_makeNone_14 ?_
  refine lv_iconst (v := nI 1) hx hb dX4_makeNone_17 (by decide) ?_
  refine wr_pi hx hb hown hK hts iX7 tyX7_ok nmX7 (ci := 6) rfl 0 (by decide) f29 rfl rfl hw (3 * (4 + 4 * b)) (by omega) (cs_S (by omega)) rfl (by decide) (by decide) dX4_makeNone_18 (fun H locs hw => ?_)
  refine lv_iconst (v := nI 0) hx hb dX4_makeNone_21 (by decide) ?_
  refine lv_istore_n (lv' := [(1, .int (nI 0)), (0, .ref (ad (297 + 2 * b)))]) hx hb dX4_makeNone_22 rfl hl (by decide) rfl (fun ls hl => ?_)
  refine w_loop (σ := Nat) (fun k M' J' ls => lv_has ls 2 [(0, .ref (ad (297 + 2 * b))), (1, .int (nI k))] ∧ J' = J ∧ k ≤ 2 ∧ M' = mnE (wU (wU (wU M (297 + 2 * b) 3 (nI 0)) (3 * (3 + 4 * b)) 0 (nI 1)) (3 * (4 + 4 * b)) 0 (nI 1)) b k) (fun k => 2 - k) (fun k M1 J1_ H locs ls hI hw ih2 => ?_) 0 ⟨lv_sub hl [1, 0] rfl, rfl, by omega, rfl⟩ hw
  obtain ⟨hl, eJ_, hk_, hI⟩ := hI
  rw [eJ_] at hw
  clear eJ_
  refine lv_iload_n hx hb dX4_makeNone_23 rfl (lv_at hl 1 rfl) ?_
  refine lv_iconst (v := nI 2) hx hb dX4_makeNone_24 (by decide) ?_
  refine lv_icmp_ge (tgt := 44) hx hb dX4_makeNone_25 (by decide) (fun q3 => ?_) (fun q3 => ?_)
  · have q3n : 2 ≤ k := (nI_leI (by omega) (by omega)).mp q3
    exact wr_vret hx hb hr hK hw (by have e : k = 2 := (by omega); rw [hI, e]) hlocks dX4_makeNone_44
  · have q3n : ¬ 2 ≤ k := fun z => q3 ((nI_leI (by omega) (by omega)).mpr z)
    refine lv_aload_n hx hb dX4_makeNone_28 rfl (lv_at hl 0 rfl) ?_
    refine wr_gr hx hb hown hK hts iX4 (ci := 3) rfl 2 (by decide) f21 rfl hw (297 + 2 * b) (by omega) (297 + 2 * b + 1) (cs_F (by omega)) rfl dX4_makeNone_29 ?_
    refine lv_iload_n hx hb dX4_makeNone_32 rfl (lv_at hl 1 rfl) ?_
    refine wr_aldN hx hb hK hw (297 + 2 * b + 1) (by omega) (cs_FE (by omega)) rfl (by decide) k rfl (by omega) dX4_makeNone_33 ?_
    refine lv_iconst (v := nI 1) hx hb dX4_makeNone_34 (by decide) ?_
    refine wr_pi hx hb hown hK hts iX7 tyX7_ok nmX7 (ci := 6) rfl 0 (by decide) f29 rfl rfl hw (3 * (5 + 4 * b + k)) (by omega) (cs_S (by omega)) rfl (by decide) (by decide) dX4_makeNone_35 (fun H locs hw => ?_)
    refine lv_iinc (v := nI (k + 1)) (lv' := [(1, .int (nI (k + 1))), (0, .ref (ad (297 + 2 * b)))]) hx hb dX4_makeNone_38 hl (k := 1) rfl (nI_1 _) (by decide) rfl (fun ls hl => ?_)
    refine lv_goto (tgt := 23) hx hb dX4_makeNone_41 (by decide) ?_
    exact ih2 (k + 1) (wU M1 (3 * (5 + 4 * b + k)) 0 (nI 1)) J _ _ _ (by omega) ⟨lv_sub hl [1, 0] rfl, rfl, by omega, (by rw [hI]; rfl)⟩ hw
set_option maxHeartbeats 4000000 in
set_option maxRecDepth 100000 in
theorem k_X4_countDeadEdges (l : Launch) (D : va_G) (ad : Nat → Nat) (cs : Nat → ClassId) (sz : Nat) (M : wM) (J : wJ) (b : Nat) (n : Nat) (hb16 : b < 16) (hn2 : n ≤ 2) : wCi l yX4_countDeadEdges wsX4_countDeadEdges { frames := 0, cells := 0, slots := 0, locals := 0 } D 340 cSh ad cs [.ref (ad (297 + 2 * b)), .int (nI n)] sz M J (fun r_ u_ => u_ = (M, J) ∧ r_ = nI (dedF M b n)) := by
  refine wC_i (cc := cX4_countDeadEdges) (maxL := 4) (ret := (some .int)) (by decide) rfl (Nat.le_of_ble_eq_true rfl) ?_
  intro p e s m below meth c ls A hx hb hr hml hown hts hlocks hK hA hw hl hAe
  clear hAe
  have hl : lv_has ls 4 [(0, .ref (ad (297 + 2 * b))), (1, .int (nI n))] := hl
  have f12 : (Cond.fieldLink RX4 12 "RangePropagator$Flow" "entryState" "LRangePropagator$State;").before _ s = true := hts _ (by decide +kernel)
  have iX4 : ∀ w ∈ wsX40, w ∈ wsX4_countDeadEdges := by decide +kernel
  have f29 : (Cond.fieldLink RX4 29 "RangePropagator$State" "isNone" "Z").before _ s = true := hts _ (by decide +kernel)
  have iX7 : ∀ w ∈ wsX70, w ∈ wsX4_countDeadEdges := by decide +kernel
  have f21 : (Cond.fieldLink RX4 21 "RangePropagator$Flow" "edgeStates" "[LRangePropagator$State;").before _ s = true := hts _ (by decide +kernel)
  refine lv_iconst (v := nI 0) hx hb dX4_countDeadEdges_0 (by decide) ?_
  refine lv_istore_n (lv' := [(2, .int (nI 0)), (0, .ref (ad (297 + 2 * b))), (1, .int (nI n))]) hx hb dX4_countDeadEdges_1 rfl hl (by decide) rfl (fun ls hl => ?_)
  refine lv_iconst (v := nI 0) hx hb dX4_countDeadEdges_2 (by decide) ?_
  refine lv_istore_n (lv' := [(3, .int (nI 0)), (2, .int (nI 0)), (0, .ref (ad (297 + 2 * b))), (1, .int (nI n))]) hx hb dX4_countDeadEdges_3 rfl hl (by decide) rfl (fun ls hl => ?_)
  refine w_loop (σ := Nat) (fun k M' J' ls => lv_has ls 4 [(0, .ref (ad (297 + 2 * b))), (1, .int (nI n)), (2, .int (nI (dedN M b k))), (3, .int (nI k))] ∧ J' = J ∧ k ≤ n ∧ M' = M ∧ (¬ M (3 * (3 + 4 * b)) 0 = 0 → k = 0)) (fun k => n - k) (fun k M1 J1_ H locs ls hI hw ih2 => ?_) 0 ⟨lv_sub hl [2, 3, 1, 0] rfl, rfl, by omega, rfl, fun _ => rfl⟩ hw
  obtain ⟨hl, eJ_, hk_, hI⟩ := hI
  rw [eJ_] at hw
  clear eJ_
  obtain ⟨eM_, hI⟩ := hI
  rw [eM_] at hw
  clear eM_
  refine lv_aload_n hx hb dX4_countDeadEdges_4 rfl (lv_at hl 0 rfl) ?_
  refine wr_gr hx hb hown hK hts iX4 (ci := 3) rfl 0 (by decide) f12 rfl hw (297 + 2 * b) (by omega) (3 * (3 + 4 * b)) (cs_F (by omega)) rfl dX4_countDeadEdges_5 ?_
  refine wr_gi hx hb hown hK hts iX7 (ci := 6) rfl 0 (by decide) f29 rfl hw (3 * (3 + 4 * b)) (by omega) (cs_S (by omega)) rfl dX4_countDeadEdges_8 ?_
  refine lv_if_ne (tgt := 40) hx hb dX4_countDeadEdges_11 (by decide) (fun q3 => ?_) (fun q3 => ?_)
  · skip
    refine lv_iload_n hx hb dX4_countDeadEdges_40 rfl (lv_at hl 2 rfl) ?_
    exact wr_iret hx hb hr rfl hK hw ⟨rfl, (by unfold dedF; rw [if_neg q3, hI q3]; rfl)⟩ hlocks dX4_countDeadEdges_41
  · skip
    refine lv_iload_n hx hb dX4_countDeadEdges_14 rfl (lv_at hl 3 rfl) ?_
    refine lv_iload_n hx hb dX4_countDeadEdges_15 rfl (lv_at hl 1 rfl) ?_
    refine lv_icmp_ge (tgt := 40) hx hb dX4_countDeadEdges_16 (by decide) (fun q4 => ?_) (fun q4 => ?_)
    · have q4n : n ≤ k := (nI_leI (by omega) (by omega)).mp q4
      refine lv_iload_n hx hb dX4_countDeadEdges_40 rfl (lv_at hl 2 rfl) ?_
      exact wr_iret hx hb hr rfl hK hw ⟨rfl, (by unfold dedF; have e : k = n := (by omega); rw [if_pos q3, e])⟩ hlocks dX4_countDeadEdges_41
    · have q4n : ¬ n ≤ k := fun z => q4 ((nI_leI (by omega) (by omega)).mpr z)
      refine lv_aload_n hx hb dX4_countDeadEdges_19 rfl (lv_at hl 0 rfl) ?_
      refine wr_gr hx hb hown hK hts iX4 (ci := 3) rfl 2 (by decide) f21 rfl hw (297 + 2 * b) (by omega) (297 + 2 * b + 1) (cs_F (by omega)) rfl dX4_countDeadEdges_20 ?_
      refine lv_iload_n hx hb dX4_countDeadEdges_23 rfl (lv_at hl 3 rfl) ?_
      refine wr_aldN hx hb hK hw (297 + 2 * b + 1) (by omega) (cs_FE (by omega)) rfl (by decide) k rfl (by omega) dX4_countDeadEdges_24 ?_
      refine wr_gi hx hb hown hK hts iX7 (ci := 6) rfl 0 (by decide) f29 rfl hw (3 * (5 + 4 * b + k)) (by omega) (cs_S (by omega)) rfl dX4_countDeadEdges_25 ?_
      refine lv_if_eq (tgt := 34) hx hb dX4_countDeadEdges_28 (by decide) (fun q5 => ?_) (fun q5 => ?_)
      · skip
        refine lv_iinc (v := nI (k + 1)) (lv' := [(3, .int (nI (k + 1))), (0, .ref (ad (297 + 2 * b))), (1, .int (nI n)), (2, .int (nI (dedN M b k)))]) hx hb dX4_countDeadEdges_34 hl (k := 3) rfl (nI_1 _) (by decide) rfl (fun ls hl => ?_)
        refine lv_goto (tgt := 4) hx hb dX4_countDeadEdges_37 (by decide) ?_
        exact ih2 (k + 1) M J _ _ _ (by omega) ⟨(by rw [dedN_1 q5]; exact lv_sub hl [1, 2, 3, 0] rfl), rfl, by omega, rfl, fun z => absurd q3 z⟩ hw
      · skip
        refine lv_iinc (v := nI (dedN M b k + 1)) (lv' := [(2, .int (nI (dedN M b k + 1))), (0, .ref (ad (297 + 2 * b))), (1, .int (nI n)), (3, .int (nI k))]) hx hb dX4_countDeadEdges_31 hl (k := 2) rfl (nI_1 _) (by decide) rfl (fun ls hl => ?_)
        refine lv_iinc (v := nI (k + 1)) (lv' := [(3, .int (nI (k + 1))), (2, .int (nI (dedN M b k + 1))), (0, .ref (ad (297 + 2 * b))), (1, .int (nI n))]) hx hb dX4_countDeadEdges_34 hl (k := 3) rfl (nI_1 _) (by decide) rfl (fun ls hl => ?_)
        refine lv_goto (tgt := 4) hx hb dX4_countDeadEdges_37 (by decide) ?_
        exact ih2 (k + 1) M J _ _ _ (by omega) ⟨(by rw [dedN_2 q5]; exact lv_sub hl [2, 3, 1, 0] rfl), rfl, by omega, rfl, fun z => absurd q3 z⟩ hw
end
section
/-! ===== the analysis, pure: makeAnew, gathering ===== -/
/-- the blocks' cells are the same -/
def bkE (M M' : wM) : Prop := ∀ c, 201 ≤ c → c < 297 → M' c = M c
theorem bkE_refl (M : wM) : bkE M M := fun _ _ _ => rfl
theorem bkE_trans {M M' M'' : wM} (h : bkE M M') (g : bkE M' M'') : bkE M M'' := fun c h1 h2 => (g c h1 h2).trans (h c h1 h2)
theorem bkE_kp {M M' : wM} {P : Nat → Prop} (h : kp M M' P) (hp : ∀ c, 201 ≤ c → c < 297 → ¬ P c) : bkE M M' := fun c h1 h2 => h c (hp c h1 h2)
theorem bkE_st {M M' : wM} {i : Nat} (h : kp M M' (stc i)) (hi : i < 67) : bkE M M' := bkE_kp h (fun c h1 h2 => by unfold stc; omega)
theorem bkE_bl {M M' : wM} {b : Nat} (h : bkE M M') (hb : b < 16) (g : blOK M b) : blOK M' b := by
  unfold blOK stOK at *
  rw [h (201 + 6 * b) (by omega) (by omega), h (201 + 6 * b + 1) (by omega) (by omega), h (201 + 6 * b + 2) (by omega) (by omega), h (201 + 6 * b + 3) (by omega) (by omega), h (201 + 6 * b + 4) (by omega) (by omega)]
  exact g
theorem bkE_ed {M M' : wM} {b : Nat} (h : bkE M M') (hb : b < 16) (g : edOK M b) : edOK M' b := by
  unfold edOK at *
  rw [h (201 + 6 * b) (by omega) (by omega)]
  exact g
theorem bkE_apN {M M' : wM} {b : Nat} (h : bkE M M') (hb : b < 16) (a : aS) : ∀ n, apN M' b n a = apN M b n a
  | 0 => rfl
  | n + 1 => by
    show (apN M' b n a).map (stA (M' (201 + 6 * b + 1) n) (tn (M' (201 + 6 * b + 2) n)) (M' (201 + 6 * b + 3) n) (M' (201 + 6 * b + 4) n)) = (apN M b n a).map (stA (M (201 + 6 * b + 1) n) (tn (M (201 + 6 * b + 2) n)) (M (201 + 6 * b + 3) n) (M (201 + 6 * b + 4) n))
    rw [bkE_apN h hb a n, h (201 + 6 * b + 1) (by omega) (by omega), h (201 + 6 * b + 2) (by omega) (by omega), h (201 + 6 * b + 3) (by omega) (by omega), h (201 + 6 * b + 4) (by omega) (by omega)]
theorem bkE_apB {M M' : wM} {b : Nat} (h : bkE M M') (hb : b < 16) (a : aS) : apB M' b a = apB M b a := by
  unfold apB; rw [bkE_apN h hb, h (201 + 6 * b) (by omega) (by omega)]
theorem bkE_edB {M M' : wM} {b e : Nat} (h : bkE M M') (hb : b < 16) (a : aS) : edB M' b e a = edB M b e a := by
  unfold edB; rw [h (201 + 6 * b) (by omega) (by omega)]
/-- the states behind a block: exit and edges -/
def mac (b c : Nat) : Prop := stc (4 + 4 * b) c ∨ stc (5 + 4 * b) c ∨ stc (6 + 4 * b) c
def Imk (M : wM) (b k : Nat) (M' : wM) : Prop := kp M M' (mac b) ∧ bz (M' (3 * (4 + 4 * b)) 0) ∧ (∀ e, e < 2 → bz (M' (3 * (5 + 4 * b + e)) 0)) ∧ sv M' (4 + 4 * b) = apB M b (sv M (3 + 4 * b)) ∧ ∀ e, e < k → sv M' (5 + 4 * b + e) = edB M b e (apB M b (sv M (3 + 4 * b)))
def pMk (M : wM) (J : wJ) (b : Nat) (u : wM × wJ) : Prop := u.2 = J ∧ Imk M b (tn (M (201 + 6 * b) 5)) u.1
theorem Imk_bkE {M M' : wM} {b k : Nat} (h : Imk M b k M') (hb : b < 16) : bkE M M' := bkE_kp h.1 (fun c h1 h2 => by unfold mac stc; omega)
theorem Imk_0 {M M1 : wM} {J : wJ} {b : Nat} {u : wM × wJ} (hb : b < 16) (ze : ∀ e, e < 2 → bz (M (3 * (5 + 4 * b + e)) 0)) (h : pS (F_X7_become M (4 + 4 * b) (3 + 4 * b)) J (4 + 4 * b) (apB (F_X7_become M (4 + 4 * b) (3 + 4 * b)) b (sv (F_X7_become M (4 + 4 * b) (3 + 4 * b)) (4 + 4 * b))) u) : Imk M b 0 u.1 := by
  obtain ⟨-, h1, h2, h3⟩ := h
  have k1 : kp M u.1 (stc (4 + 4 * b)) := kp_trans become_kp h1
  refine ⟨kp_mono k1 (fun c hc => Or.inl hc), h2, fun e he => ?_, ?_, fun e he => absurd he (Nat.not_lt_zero e)⟩
  · rw [k1 (3 * (5 + 4 * b + e)) (by unfold stc; omega)]; exact ze e he
  · rw [h3, bkE_apB (bkE_st become_kp (by omega)) hb, become_sv (by omega)]
theorem Imk_s {M M1 : wM} {J : wJ} {b k : Nat} {u : wM × wJ} (hb : b < 16) (hk : k < 2) (h : Imk M b k M1) (g : pS (F_X7_become M1 (5 + 4 * b + k) (4 + 4 * b)) J (5 + 4 * b + k) (edB (F_X7_become M1 (5 + 4 * b + k) (4 + 4 * b)) b k (sv (F_X7_become M1 (5 + 4 * b + k) (4 + 4 * b)) (5 + 4 * b + k))) u) : Imk M b (k + 1) u.1 := by
  obtain ⟨-, g1, g2, g3⟩ := g
  have hB := Imk_bkE h hb
  obtain ⟨h1, h2, h3, h4, h5⟩ := h
  have k1 : kp M1 u.1 (stc (5 + 4 * b + k)) := kp_trans become_kp g1
  refine ⟨kp_trans h1 (kp_mono k1 (fun c hc => ?_)), ?_, fun e he => ?_, ?_, fun e he => ?_⟩
  · unfold mac; unfold stc at *; omega
  · rw [k1 (3 * (4 + 4 * b)) (by unfold stc; omega)]; exact h2
  · by_cases q : e = k
    · subst q; exact g2
    · rw [k1 (3 * (5 + 4 * b + e)) (by unfold stc; omega)]; exact h3 e he
  · rw [sv_stc k1 (by omega)]; exact h4
  · by_cases q : e = k
    · subst q
      rw [g3, bkE_edB (bkE_trans hB (bkE_st become_kp (by omega))) hb, become_sv (by omega), h4]
    · rw [sv_stc k1 (by omega)]; exact h5 e (by omega)
/-- what leads to the block t, of the first e edges of the block b; of the first b blocks -/
def gE (M : wM) (X : Nat → Nat → aS) (t b : Nat) : Nat → aS → aS
  | 0, a => a
  | e + 1, a => if M (201 + 6 * b + 5) e = nI t then jn (gE M X t b e a) (X b e) else gE M X t b e a
def gB (M : wM) (X : Nat → Nat → aS) (t : Nat) : Nat → aS → aS
  | 0, a => a
  | b + 1, a => gE M X t b (tn (M (201 + 6 * b) 5)) (gB M X t b a)
def gat (M : wM) (X : Nat → Nat → aS) (cnt t : Nat) : aS := gB M X t cnt (if t = 0 then jn none (sv M 0) else none)
theorem gE_1 {M : wM} {X : Nat → Nat → aS} {t b e : Nat} {a : aS} (h : M (201 + 6 * b + 5) e = nI t) : gE M X t b (e + 1) a = jn (gE M X t b e a) (X b e) := by
  show (if M (201 + 6 * b + 5) e = nI t then jn (gE M X t b e a) (X b e) else gE M X t b e a) = _
  rw [if_pos h]
theorem gE_2 {M : wM} {X : Nat → Nat → aS} {t b e : Nat} {a : aS} (h : ¬ M (201 + 6 * b + 5) e = nI t) : gE M X t b (e + 1) a = gE M X t b e a := by
  show (if M (201 + 6 * b + 5) e = nI t then jn (gE M X t b e a) (X b e) else gE M X t b e a) = _
  rw [if_neg h]
theorem gE_ext {M M' : wM} {X X' : Nat → Nat → aS} {t b : Nat} {a : aS} (h : bkE M M') (hb : b < 16) : ∀ e, (∀ q, q < e → X' b q = X b q) → gE M' X' t b e a = gE M X t b e a
  | 0, _ => rfl
  | e + 1, hX => by
    show (if M' (201 + 6 * b + 5) e = nI t then jn (gE M' X' t b e a) (X' b e) else gE M' X' t b e a) = (if M (201 + 6 * b + 5) e = nI t then jn (gE M X t b e a) (X b e) else gE M X t b e a)
    rw [gE_ext h hb e (fun q hq => hX q (by omega)), hX e (by omega), h (201 + 6 * b + 5) (by omega) (by omega)]
theorem gB_ext {M M' : wM} {X X' : Nat → Nat → aS} {t : Nat} {a : aS} (h : bkE M M') : ∀ b, b ≤ 16 → (∀ q e, q < b → e < tn (M (201 + 6 * q) 5) → X' q e = X q e) → gB M' X' t b a = gB M X t b a
  | 0, _, _ => rfl
  | b + 1, hb, hX => by
    show gE M' X' t b (tn (M' (201 + 6 * b) 5)) (gB M' X' t b a) = gE M X t b (tn (M (201 + 6 * b) 5)) (gB M X t b a)
    rw [gB_ext h b (by omega) (fun q e hq he => hX q e (by omega) he), h (201 + 6 * b) (by omega) (by omega), gE_ext h (by omega) _ (fun q hq => hX b q (by omega) hq)]
/-- all states' booleans -/
def cZ (M : wM) : Prop := ∀ i, i < 67 → bz (M (3 * i) 0)
theorem cZ_sS {M M' : wM} {i : Nat} {a : aS} (h : cZ M) (g : sS M i M' a) : cZ M' := fun j hj => by
  by_cases q : j = i
  · subst q; exact g.2.1
  · rw [g.1 (3 * j) (by unfold stc; omega)]; exact h j hj
theorem sS_join {M M1 : wM} {J : wJ} {i j : Nat} {a : aS} {u : wM × wJ} (hij : j ≠ i) (h : sS M i M1 a) (g : pS M1 J i (jn (sv M1 i) (sv M1 j)) u) : sS M i u.1 (jn a (sv M j)) := by
  obtain ⟨-, g1, g2, g3⟩ := g
  refine ⟨kp_trans h.1 g1, g2, ?_⟩
  rw [g3, h.2.2, sv_stc h.1 hij]
theorem sS_z {M M1 : wM} {i j : Nat} {a : aS} (hc : cZ M) (hj : j < 67) (h : sS M i M1 a) : bz (M1 (3 * j) 0) := cZ_sS hc h j hj
/-- the program and the settings are such as they may be -/
def prOK (M : wM) (cnt t : Nat) : Prop := M 330 2 = nI cnt ∧ cnt ≤ 16 ∧ (∀ b, b < 16 → blOK M b ∧ edOK M b) ∧ M 332 2 = nI t ∧ t ≤ 8
/-- the analysis over the program of M0: entry states E, visits V -/
def anC (c : Nat) : Prop := (3 ≤ c ∧ c < 201) ∨ (297 ≤ c ∧ c < 329)
def AN (M0 M : wM) (E : Nat → aS) (V : Nat → Int32) : Prop := kp M0 M anC ∧ cZ M ∧ ∀ b, b < 16 → sv M (3 + 4 * b) = E b ∧ M (297 + 2 * b) 3 = V b ∧ sv M (4 + 4 * b) = apB M0 b (E b) ∧ ∀ e, e < tn (M0 (201 + 6 * b) 5) → sv M (5 + 4 * b + e) = edB M0 b e (apB M0 b (E b))
theorem AN_bkE {M0 M : wM} {E : Nat → aS} {V : Nat → Int32} (h : AN M0 M E V) : bkE M0 M := bkE_kp h.1 (fun c h1 h2 => by unfold anC; omega)
/-- the entry state that a look at b makes, where something leads to b -/
def gatA (M0 : wM) (E : Nat → aS) (cnt b : Nat) : aS := gat M0 (fun q e => edB M0 q e (apB M0 q (E q))) cnt b
theorem AN_gat {M0 M : wM} {E : Nat → aS} {V : Nat → Int32} {cnt b : Nat} (h : AN M0 M E V) (hc : cnt ≤ 16) : gat M (fun q e => sv M (5 + 4 * q + e)) cnt b = gatA M0 E cnt b := by
  unfold gatA gat
  rw [sv_kp h.1 (i := 0) (by unfold anC; omega) (by unfold anC; omega) (by unfold anC; omega)]
  exact gB_ext (AN_bkE h) cnt hc (fun q e hq he => (h.2.2 q (by omega)).2.2.2 e he)
def nEn (M0 : wM) (E : Nat → aS) (V : Nat → Int32) (cnt t b : Nat) : aS := if ¬ E b = none ∧ ¬ V b < M0 332 0 then wd M0 t (jn (E b) (gatA M0 E cnt b)) (E b) else jn (E b) (gatA M0 E cnt b)
def chg (M0 : wM) (E : Nat → aS) (V : Nat → Int32) (cnt t b : Nat) : Prop := ¬ gatA M0 E cnt b = none ∧ ¬ nEn M0 E V cnt t b = E b
noncomputable def lkE (M0 : wM) (E : Nat → aS) (V : Nat → Int32) (cnt t b : Nat) : Nat → aS := @ite _ (chg M0 E V cnt t b) (Classical.propDecidable _) (va_up E b (nEn M0 E V cnt t b)) E
noncomputable def lkV (M0 : wM) (E : Nat → aS) (V : Nat → Int32) (cnt t b : Nat) : Nat → Int32 := @ite _ (chg M0 E V cnt t b) (Classical.propDecidable _) (va_up V b (V b + nI 1)) V
noncomputable def nrE (M0 : wM) (E : Nat → aS) (cnt b : Nat) : Nat → aS := @ite _ (E b = none) (Classical.propDecidable _) E (va_up E b (nw (E b) (gatA M0 E cnt b)))
end
section
/-! ===== a look at a block, a narrowing of a block: pure ===== -/
def XM (M : wM) : Nat → Nat → aS := fun b e => sv M (5 + 4 * b + e)
def lkc (b c : Nat) : Prop := stc 1 c ∨ stc 2 c ∨ stc (3 + 4 * b) c ∨ c = 297 + 2 * b
theorem AN_keep {M0 M M' : wM} {E : Nat → aS} {V : Nat → Int32} (h : AN M0 M E V) (hk : kp M M' (fun c => stc 1 c ∨ stc 2 c)) (hz : cZ M') : AN M0 M' E V := by
  obtain ⟨h1, h2, h3⟩ := h
  have hs : ∀ i, 2 < i → i < 67 → sv M' i = sv M i := fun i a b => sv_kp hk (by unfold stc; omega) (by unfold stc; omega) (by unfold stc; omega)
  refine ⟨kp_trans h1 (kp_mono hk (fun c hc => by unfold anC; unfold stc at hc; omega)), hz, fun b hb => ?_⟩
  obtain ⟨a1, a2, a3, a4⟩ := h3 b hb
  refine ⟨by rw [hs _ (by omega) (by omega)]; exact a1, by rw [hk (297 + 2 * b) (by unfold stc; omega)]; exact a2, by rw [hs _ (by omega) (by omega)]; exact a3, fun e he => ?_⟩
  by_cases q : e < 2
  · rw [hs _ (by omega) (by omega)]; exact a4 e he
  · rw [sv_kp hk (by unfold stc; omega) (by unfold stc; omega) (by unfold stc; omega)]; exact a4 e he
theorem AN_mk {M0 M M2 : wM} {J : wJ} {E : Nat → aS} {V : Nat → Int32} {b : Nat} {v : Int32} {u : wM × wJ} (hb : b < 16) (hp : ∀ q, q < 16 → edOK M0 q) (h : AN M0 M E V) (hk : kp M M2 (lkc b)) (hz : cZ M2) (hv : M2 (297 + 2 * b) 3 = v) (g : pMk M2 J b u) : AN M0 u.1 (va_up E b (sv M2 (3 + 4 * b))) (va_up V b v) := by
  have hB0 := AN_bkE h
  obtain ⟨h1, h2, h3⟩ := h
  obtain ⟨-, g1⟩ := g
  have hB2 : bkE M0 M2 := bkE_trans hB0 (bkE_kp hk (fun c a d => by unfold lkc stc; omega))
  obtain ⟨g1, g2, g3, g4, g5⟩ := g1
  have ka : kp M u.1 (fun c => lkc b c ∨ mac b c) := kp_trans (kp_mono hk (fun c hc => Or.inl hc)) (kp_mono g1 (fun c hc => Or.inr hc))
  refine ⟨kp_trans h1 (kp_mono ka (fun c hc => ?_)), fun i hi => ?_, fun q hq => ?_⟩
  · unfold anC; unfold lkc mac at hc; unfold stc at hc; omega
  · by_cases q1 : i = 4 + 4 * b
    · subst q1; exact g2
    · by_cases q2 : i = 5 + 4 * b
      · subst q2; exact g3 0 (by omega)
      · by_cases q3 : i = 6 + 4 * b
        · subst q3; rw [show 6 + 4 * b = 5 + 4 * b + 1 by omega]; exact g3 1 (by omega)
        · rw [g1 (3 * i) (by unfold mac stc; omega)]; exact hz i hi
  · by_cases qb : q = b
    · subst qb
      rw [va_up_self, va_up_self]
      refine ⟨sv_kp g1 (by unfold mac stc; omega) (by unfold mac stc; omega) (by unfold mac stc; omega), by rw [g1 (297 + 2 * q) (by unfold mac stc; omega)]; exact hv, by rw [g4, bkE_apB hB2 hb], fun e he => ?_⟩
      rw [g5 e (by rw [hB2 (201 + 6 * q) (by omega) (by omega)]; exact he), bkE_edB hB2 hb, bkE_apB hB2 hb]
    · rw [va_up_ne _ _ qb, va_up_ne _ _ qb]
      obtain ⟨a1, a2, a3, a4⟩ := h3 q hq
      have e2 := (hp q hq).2.1
      refine ⟨?_, ?_, ?_, fun e he => ?_⟩
      · rw [sv_kp ka (by unfold lkc mac stc; omega) (by unfold lkc mac stc; omega) (by unfold lkc mac stc; omega)]; exact a1
      · rw [ka (297 + 2 * q) (by unfold lkc mac stc; omega)]; exact a2
      · rw [sv_kp ka (by unfold lkc mac stc; omega) (by unfold lkc mac stc; omega) (by unfold lkc mac stc; omega)]; exact a3
      · rw [sv_kp ka (by unfold lkc mac stc; omega) (by unfold lkc mac stc; omega) (by unfold lkc mac stc; omega)]; exact a4 e he
/-- behind the gathering and the join: the two states of the analysis' own, the join in the second -/
def LJ (M M' : wM) (a : aS) : Prop := kp M M' (fun c => stc 1 c ∨ stc 2 c) ∧ cZ M' ∧ sv M' 2 = a
theorem LJ_1 {M M1 : wM} {J : wJ} {b : Nat} {N : aS} {u : wM × wJ} (hb : b < 16) (hz : cZ M) (h : pS M J 1 N (M1, J)) (g : pS (F_X7_become M1 2 (3 + 4 * b)) J 2 (jn (sv (F_X7_become M1 2 (3 + 4 * b)) 2) (sv (F_X7_become M1 2 (3 + 4 * b)) 1)) u) : LJ M u.1 (jn (sv M (3 + 4 * b)) N) := by
  obtain ⟨-, h1, h2, h3⟩ := h
  obtain ⟨-, g1, g2, g3⟩ := g
  have k2 : kp M1 u.1 (stc 2) := kp_trans become_kp g1
  have z1 : cZ M1 := cZ_sS (i := 1) hz ⟨h1, h2, h3⟩
  refine ⟨kp_trans (kp_mono h1 (fun c hc => Or.inl hc)) (kp_mono k2 (fun c hc => Or.inr hc)), fun i hi => ?_, ?_⟩
  · by_cases q : i = 2
    · subst q; exact g2
    · rw [k2 (3 * i) (by unfold stc; omega)]; exact z1 i hi
  · rw [g3, become_sv (by omega), sv_stc become_kp (by omega), sv_stc (M := M) (i := 1) h1 (by omega)]
    show jn _ (sv M1 1) = _
    rw [show sv M1 1 = N from h3]
theorem LJ_2 {M M1 : wM} {J : wJ} {b t : Nat} {a : aS} {u : wM × wJ} (hb : b < 16) (h : LJ M M1 a) (g : pS M1 J 2 (wd M1 t (sv M1 2) (sv M1 (3 + 4 * b))) u) : LJ M u.1 (wd M t a (sv M (3 + 4 * b))) := by
  obtain ⟨h1, h2, h3⟩ := h
  obtain ⟨-, g1, g2, g3⟩ := g
  refine ⟨kp_trans h1 (kp_mono g1 (fun c hc => Or.inr hc)), fun i hi => ?_, ?_⟩
  · by_cases q : i = 2
    · subst q; exact g2
    · rw [g1 (3 * i) (by unfold stc; omega)]; exact h2 i hi
  · rw [g3, h3, sv_kp h1 (i := 3 + 4 * b) (by unfold stc; omega) (by unfold stc; omega) (by unfold stc; omega)]
    have e : M1 333 = M 333 := h1 333 (by unfold stc; omega)
    unfold wd
    cases a with
    | none => rfl
    | some f =>
      cases sv M (3 + 4 * b) with
      | none => rfl
      | some g => simp only [wlo, whi, gu_eq e, sm_eq e]
theorem jn_some {a : aS} {N : aS} (h : ¬ N = none) : ¬ jn a N = none := by
  cases N with
  | none => exact absurd rfl h
  | some g => cases a <;> (intro z; cases z)
theorem sv_z {M : wM} {i : Nat} (h : ¬ sv M i = none) : M (3 * i) 0 = 0 := by
  by_cases q : M (3 * i) 0 = 0
  · exact q
  · exact absurd (sv_none q) h
theorem sv_nn {M : wM} {i : Nat} (h : M (3 * i) 0 = 0) : ¬ sv M i = none := by rw [sv_some h]; intro z; cases z
theorem wd_eq {M M' : wM} (e : M' 333 = M 333) (t : Nat) (a c : aS) : wd M' t a c = wd M t a c := by
  unfold wd
  cases a with
  | none => rfl
  | some f =>
    cases c with
    | none => rfl
    | some g => simp only [wlo, whi, gu_eq e, sm_eq e]
/-- what a look at the block b leaves -/
def pLk (M0 : wM) (J : wJ) (E : Nat → aS) (V : Nat → Int32) (cnt t b : Nat) (r : Int32) (u : wM × wJ) : Prop := u.2 = J ∧ ((chg M0 E V cnt t b ∧ r = nI 1) ∨ (¬ chg M0 E V cnt t b ∧ r = nI 0)) ∧ AN M0 u.1 (lkE M0 E V cnt t b) (lkV M0 E V cnt t b)
theorem pLk_no {M0 M M' : wM} {J : wJ} {E : Nat → aS} {V : Nat → Int32} {cnt t b : Nat} (h : AN M0 M E V) (hk : kp M M' (fun c => stc 1 c ∨ stc 2 c)) (hz : cZ M') (hn : ¬ chg M0 E V cnt t b) : pLk M0 J E V cnt t b (nI 0) (M', J) := by
  refine ⟨rfl, Or.inr ⟨hn, rfl⟩, ?_⟩
  unfold lkE lkV
  rw [if_neg hn, if_neg hn]
  exact AN_keep h hk hz
theorem pLk_1 {M0 M M1 : wM} {J : wJ} {E : Nat → aS} {V : Nat → Int32} {cnt t b : Nat} (hc : cnt ≤ 16) (h : AN M0 M E V) (g : pS M J 1 (gat M (XM M) cnt b) (M1, J)) (q : ¬ M1 (3 * 1) 0 = 0) : pLk M0 J E V cnt t b (nI 0) (M1, J) := by
  obtain ⟨-, g1, g2, g3⟩ := g
  refine pLk_no h (kp_mono g1 (fun c hc => Or.inl hc)) (cZ_sS (i := 1) h.2.1 ⟨g1, g2, g3⟩) (fun z => z.1 ?_)
  have e : gat M (XM M) cnt b = gatA M0 E cnt b := AN_gat h hc
  rw [← e, ← g3]
  exact sv_none q
theorem pLk_2 {M0 M M3 : wM} {J : wJ} {E : Nat → aS} {V : Nat → Int32} {cnt t b : Nat} (hb : b < 16) (h : AN M0 M E V) (hj : LJ M M3 (nEn M0 E V cnt t b)) (q : sv M3 2 = sv M3 (3 + 4 * b)) : pLk M0 J E V cnt t b (nI 0) (M3, J) := by
  refine pLk_no h hj.1 hj.2.1 (fun z => z.2 ?_)
  rw [← hj.2.2, q, sv_kp hj.1 (by unfold stc; omega) (by unfold stc; omega) (by unfold stc; omega)]
  exact (h.2.2 b hb).1
theorem pLk_3 {M0 M M3 : wM} {J : wJ} {E : Nat → aS} {V : Nat → Int32} {cnt t b : Nat} {u : wM × wJ} (hb : b < 16) (hp : ∀ q, q < 16 → edOK M0 q) (h : AN M0 M E V) (hN : ¬ gatA M0 E cnt b = none) (hj : LJ M M3 (nEn M0 E V cnt t b)) (q : ¬ sv M3 2 = sv M3 (3 + 4 * b))
    (g : pMk (wU (F_X7_become M3 (3 + 4 * b) 2) (297 + 2 * b) 3 (F_X7_become M3 (3 + 4 * b) 2 (297 + 2 * b) 3 + nI 1)) J b u) : pLk M0 J E V cnt t b (nI 1) u := by
  have hc : chg M0 E V cnt t b := ⟨hN, fun z => q (by
    rw [hj.2.2, z, sv_kp hj.1 (by unfold stc; omega) (by unfold stc; omega) (by unfold stc; omega)]
    exact (h.2.2 b hb).1.symm)⟩
  refine ⟨g.1, Or.inl ⟨hc, rfl⟩, ?_⟩
  unfold lkE lkV
  rw [if_pos hc, if_pos hc]
  have e1 : F_X7_become M3 (3 + 4 * b) 2 (297 + 2 * b) = M (297 + 2 * b) := by
    rw [become_kp (297 + 2 * b) (by unfold stc; omega), hj.1 (297 + 2 * b) (by unfold stc; omega)]
  have e2 : sv (wU (F_X7_become M3 (3 + 4 * b) 2) (297 + 2 * b) 3 (F_X7_become M3 (3 + 4 * b) 2 (297 + 2 * b) 3 + nI 1)) (3 + 4 * b) = nEn M0 E V cnt t b := by
    rw [sv_kp (kp_U (P := fun c => c = 297 + 2 * b) rfl) (by omega) (by omega) (by omega), become_sv (by omega)]
    exact hj.2.2
  have key := AN_mk (v := V b + nI 1) hb hp h (kp_trans (kp_trans (kp_mono hj.1 (fun c hc => ?_)) (kp_mono become_kp (fun c hc => Or.inr (Or.inr (Or.inl hc))))) (kp_U (Or.inr (Or.inr (Or.inr rfl))))) (fun i hi => ?_) ?_ g
  · rw [e2] at key; exact key
  · rcases hc with hc | hc
    · exact Or.inl hc
    · exact Or.inr (Or.inl hc)
  · rw [wU_ne (by omega)]
    by_cases qi : i = 3 + 4 * b
    · subst qi; rw [become_z]; exact hj.2.1 2 (by omega)
    · rw [become_kp (3 * i) (by unfold stc; omega)]; exact hj.2.1 i hi
  · rw [wU_at, if_pos ⟨rfl, rfl⟩, e1, (h.2.2 b hb).2.1]
theorem nEn_1 {M0 : wM} {E : Nat → aS} {V : Nat → Int32} {cnt t b : Nat} (h : E b = none) : nEn M0 E V cnt t b = jn (E b) (gatA M0 E cnt b) := by unfold nEn; rw [if_neg (fun z => z.1 h)]
theorem nEn_2 {M0 : wM} {E : Nat → aS} {V : Nat → Int32} {cnt t b : Nat} (h : V b < M0 332 0) : nEn M0 E V cnt t b = jn (E b) (gatA M0 E cnt b) := by unfold nEn; rw [if_neg (fun z => z.2 h)]
theorem nEn_3 {M0 : wM} {E : Nat → aS} {V : Nat → Int32} {cnt t b : Nat} (h : ¬ E b = none) (g : ¬ V b < M0 332 0) : nEn M0 E V cnt t b = wd M0 t (jn (E b) (gatA M0 E cnt b)) (E b) := by unfold nEn; rw [if_pos ⟨h, g⟩]
/-- what a narrowing of the block b leaves -/
def pNr (M0 : wM) (J : wJ) (E : Nat → aS) (V : Nat → Int32) (cnt b : Nat) (u : wM × wJ) : Prop := u.2 = J ∧ AN M0 u.1 (nrE M0 E cnt b) V
theorem pNr_1 {M0 M : wM} {J : wJ} {E : Nat → aS} {V : Nat → Int32} {cnt b : Nat} (hb : b < 16) (h : AN M0 M E V) (q : ¬ M (3 * (3 + 4 * b)) 0 = 0) : pNr M0 J E V cnt b (M, J) := by
  refine ⟨rfl, ?_⟩
  unfold nrE
  rw [if_pos (by rw [← (h.2.2 b hb).1]; exact sv_none q)]
  exact h
theorem va_up_id {α : Type} (f : Nat → α) (k : Nat) : va_up f k (f k) = f := by
  funext j
  unfold va_up
  by_cases h : j = k
  · rw [if_pos h, h]
  · rw [if_neg h]
theorem pNr_2 {M0 M M1 M2 : wM} {J : wJ} {E : Nat → aS} {V : Nat → Int32} {cnt b : Nat} {u : wM × wJ} (hb : b < 16) (hcn : cnt ≤ 16) (hp : ∀ q, q < 16 → edOK M0 q) (h : AN M0 M E V) (q : M (3 * (3 + 4 * b)) 0 = 0) (g : pS M J 1 (gat M (XM M) cnt b) (M1, J)) (f : pS M1 J (3 + 4 * b) (nw (sv M1 (3 + 4 * b)) (sv M1 1)) (M2, J)) (k : pMk M2 J b u) : pNr M0 J E V cnt b u := by
  obtain ⟨-, g1, g2, g3⟩ := g
  obtain ⟨-, f1, f2, f3⟩ := f
  dsimp only at g1 g2 g3 f1 f2 f3
  have z1 : cZ M1 := cZ_sS (i := 1) h.2.1 ⟨g1, g2, g3⟩
  have z2 : cZ M2 := cZ_sS (i := 3 + 4 * b) z1 ⟨f1, f2, f3⟩
  have e : gat M (XM M) cnt b = gatA M0 E cnt b := AN_gat h hcn
  refine ⟨k.1, ?_⟩
  unfold nrE
  rw [if_neg (by rw [← (h.2.2 b hb).1]; exact sv_nn q)]
  have key := AN_mk (v := V b) hb hp h (kp_trans (kp_mono g1 (fun c hc => Or.inl hc)) (kp_mono f1 (fun c hc => Or.inr (Or.inr (Or.inl hc))))) z2 (by rw [show M2 (297 + 2 * b) = M1 (297 + 2 * b) from f1 (297 + 2 * b) (by unfold stc; omega), show M1 (297 + 2 * b) = M (297 + 2 * b) from g1 (297 + 2 * b) (by unfold stc; omega)]; exact (h.2.2 b hb).2.1) k
  rw [show sv M2 (3 + 4 * b) = nw (sv M1 (3 + 4 * b)) (sv M1 1) from f3, show sv M1 1 = gat M (XM M) cnt b from g3, e, sv_stc (M := M) (M' := M1) g1 (by omega), (h.2.2 b hb).1, va_up_id] at key
  exact key
end
