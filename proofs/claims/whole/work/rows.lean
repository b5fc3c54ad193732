section
-- ===== PART A: goes FIRST, ahead of the names: the tables' words, and 'selects' of the private methods out of them =====
/-- a private method of a class that the tables say can be made, by its rows of tables_1 -/
def lw_okq (q : MethodName × Nat) : Prop := (q.1.cls ≠ "java/lang/invoke/MethodHandle" ∧ q.1.cls ≠ "java/lang/invoke/VarHandle") ∧ Cond.instantiable q.1.cls q.2 ∈ tables_1 ∧ Cond.privateMethod q.1 ∈ tables_1 ∧ Cond.instanceMethod q.1 ∈ tables_1
theorem lw_p0 : lw_okq (⟨"ForkHall", "headOf", "(I)I"⟩, 7) := ⟨⟨by decide +kernel, by decide +kernel⟩, List.mem_of_getElem? (i := 23) (by decide +kernel), List.mem_of_getElem? (i := 173) (by decide +kernel), List.mem_of_getElem? (i := 174) (by decide +kernel)⟩
theorem lw_p1 : lw_okq (⟨"java/lang/Throwable", "fillInStackTrace", "(I)Ljava/lang/Throwable;"⟩, 6) := ⟨⟨by decide +kernel, by decide +kernel⟩, List.mem_of_getElem? (i := 274) (by decide +kernel), List.mem_of_getElem? (i := 272) (by decide +kernel), List.mem_of_getElem? (i := 273) (by decide +kernel)⟩
theorem lw_p2 : lw_okq (⟨"ForkHall$History", "findSame", "(LForkHall$Tree;II)I"⟩, 8) := ⟨⟨by decide +kernel, by decide +kernel⟩, List.mem_of_getElem? (i := 31) (by decide +kernel), List.mem_of_getElem? (i := 433) (by decide +kernel), List.mem_of_getElem? (i := 434) (by decide +kernel)⟩
theorem lw_p3 : lw_okq (⟨"ForkHall$History", "ancestorsAt", "(I)J"⟩, 8) := ⟨⟨by decide +kernel, by decide +kernel⟩, List.mem_of_getElem? (i := 31) (by decide +kernel), List.mem_of_getElem? (i := 457) (by decide +kernel), List.mem_of_getElem? (i := 458) (by decide +kernel)⟩
theorem lw_p4 : lw_okq (⟨"ForkHall", "takeAsHead", "(I)V"⟩, 7) := ⟨⟨by decide +kernel, by decide +kernel⟩, List.mem_of_getElem? (i := 23) (by decide +kernel), List.mem_of_getElem? (i := 462) (by decide +kernel), List.mem_of_getElem? (i := 463) (by decide +kernel)⟩
theorem lw_p5 : lw_okq (⟨"ForkHall$Pack", "add", "(I)V"⟩, 6) := ⟨⟨by decide +kernel, by decide +kernel⟩, List.mem_of_getElem? (i := 120) (by decide +kernel), List.mem_of_getElem? (i := 474) (by decide +kernel), List.mem_of_getElem? (i := 475) (by decide +kernel)⟩
theorem lw_p6 : lw_okq (⟨"ForkHall", "requireHead", "(I)I"⟩, 7) := ⟨⟨by decide +kernel, by decide +kernel⟩, List.mem_of_getElem? (i := 23) (by decide +kernel), List.mem_of_getElem? (i := 501) (by decide +kernel), List.mem_of_getElem? (i := 502) (by decide +kernel)⟩
theorem lw_p7 : lw_okq (⟨"ForkHall", "requireNoChanges", "()V"⟩, 7) := ⟨⟨by decide +kernel, by decide +kernel⟩, List.mem_of_getElem? (i := 23) (by decide +kernel), List.mem_of_getElem? (i := 506) (by decide +kernel), List.mem_of_getElem? (i := 507) (by decide +kernel)⟩
theorem lw_p8 : lw_okq (⟨"ForkHall", "requireCommit", "(I)V"⟩, 7) := ⟨⟨by decide +kernel, by decide +kernel⟩, List.mem_of_getElem? (i := 23) (by decide +kernel), List.mem_of_getElem? (i := 518) (by decide +kernel), List.mem_of_getElem? (i := 519) (by decide +kernel)⟩
theorem lw_p9 : lw_okq (⟨"ForkHall$History", "isIn", "(JI)Z"⟩, 8) := ⟨⟨by decide +kernel, by decide +kernel⟩, List.mem_of_getElem? (i := 31) (by decide +kernel), List.mem_of_getElem? (i := 536) (by decide +kernel), List.mem_of_getElem? (i := 537) (by decide +kernel)⟩
theorem lw_p10 : lw_okq (⟨"ForkHall", "recordMerge", "(II)I"⟩, 7) := ⟨⟨by decide +kernel, by decide +kernel⟩, List.mem_of_getElem? (i := 23) (by decide +kernel), List.mem_of_getElem? (i := 541) (by decide +kernel), List.mem_of_getElem? (i := 542) (by decide +kernel)⟩
theorem lw_p11 : lw_okq (⟨"ForkHall$Comparison", "takeMoves", "(I)V"⟩, 4) := ⟨⟨by decide +kernel, by decide +kernel⟩, List.mem_of_getElem? (i := 81) (by decide +kernel), List.mem_of_getElem? (i := 559) (by decide +kernel), List.mem_of_getElem? (i := 560) (by decide +kernel)⟩
theorem lw_p12 : lw_okq (⟨"ForkHall$Comparison", "isFreeToLeave", "(I)Z"⟩, 4) := ⟨⟨by decide +kernel, by decide +kernel⟩, List.mem_of_getElem? (i := 81) (by decide +kernel), List.mem_of_getElem? (i := 563) (by decide +kernel), List.mem_of_getElem? (i := 564) (by decide +kernel)⟩
theorem lw_p13 : lw_okq (⟨"ForkHall$Comparison", "isFreeToCome", "(I)Z"⟩, 4) := ⟨⟨by decide +kernel, by decide +kernel⟩, List.mem_of_getElem? (i := 81) (by decide +kernel), List.mem_of_getElem? (i := 572) (by decide +kernel), List.mem_of_getElem? (i := 573) (by decide +kernel)⟩
theorem lw_p14 : lw_okq (⟨"ForkHall$Comparison", "source", "(I)I"⟩, 4) := ⟨⟨by decide +kernel, by decide +kernel⟩, List.mem_of_getElem? (i := 81) (by decide +kernel), List.mem_of_getElem? (i := 576) (by decide +kernel), List.mem_of_getElem? (i := 577) (by decide +kernel)⟩
theorem lw_p15 : lw_okq (⟨"ForkHall$TreeMerge", "follow", "(I)V"⟩, 5) := ⟨⟨by decide +kernel, by decide +kernel⟩, List.mem_of_getElem? (i := 75) (by decide +kernel), List.mem_of_getElem? (i := 586) (by decide +kernel), List.mem_of_getElem? (i := 587) (by decide +kernel)⟩
def lw_privs_1 : List (MethodName × Nat) := [(⟨"ForkHall", "headOf", "(I)I"⟩, 7), (⟨"java/lang/Throwable", "fillInStackTrace", "(I)Ljava/lang/Throwable;"⟩, 6), (⟨"ForkHall$History", "findSame", "(LForkHall$Tree;II)I"⟩, 8), (⟨"ForkHall$History", "ancestorsAt", "(I)J"⟩, 8), (⟨"ForkHall", "takeAsHead", "(I)V"⟩, 7), (⟨"ForkHall$Pack", "add", "(I)V"⟩, 6), (⟨"ForkHall", "requireHead", "(I)I"⟩, 7), (⟨"ForkHall", "requireNoChanges", "()V"⟩, 7), (⟨"ForkHall", "requireCommit", "(I)V"⟩, 7), (⟨"ForkHall$History", "isIn", "(JI)Z"⟩, 8), (⟨"ForkHall", "recordMerge", "(II)I"⟩, 7), (⟨"ForkHall$Comparison", "takeMoves", "(I)V"⟩, 4), (⟨"ForkHall$Comparison", "isFreeToLeave", "(I)Z"⟩, 4), (⟨"ForkHall$Comparison", "isFreeToCome", "(I)Z"⟩, 4), (⟨"ForkHall$Comparison", "source", "(I)I"⟩, 4), (⟨"ForkHall$TreeMerge", "follow", "(I)V"⟩, 5)]
theorem lw_r1 : ∀ q ∈ lw_privs_1, lw_okq q := List.forall_mem_cons.mpr ⟨lw_p0, List.forall_mem_cons.mpr ⟨lw_p1, List.forall_mem_cons.mpr ⟨lw_p2, List.forall_mem_cons.mpr ⟨lw_p3, List.forall_mem_cons.mpr ⟨lw_p4, List.forall_mem_cons.mpr ⟨lw_p5, List.forall_mem_cons.mpr ⟨lw_p6, List.forall_mem_cons.mpr ⟨lw_p7, List.forall_mem_cons.mpr ⟨lw_p8, List.forall_mem_cons.mpr ⟨lw_p9, List.forall_mem_cons.mpr ⟨lw_p10, List.forall_mem_cons.mpr ⟨lw_p11, List.forall_mem_cons.mpr ⟨lw_p12, List.forall_mem_cons.mpr ⟨lw_p13, List.forall_mem_cons.mpr ⟨lw_p14, List.forall_mem_cons.mpr ⟨lw_p15, fun _ h => absurd h List.not_mem_nil⟩⟩⟩⟩⟩⟩⟩⟩⟩⟩⟩⟩⟩⟩⟩⟩
theorem lw_p16 : lw_okq (⟨"ForkHall$TreeMerge", "arrive", "(II)V"⟩, 5) := ⟨⟨by decide +kernel, by decide +kernel⟩, List.mem_of_getElem? (i := 75) (by decide +kernel), List.mem_of_getElem? (i := 610) (by decide +kernel), List.mem_of_getElem? (i := 611) (by decide +kernel)⟩
theorem lw_p17 : lw_okq (⟨"ForkHall$TreeMerge", "bringNewFiles", "(I)V"⟩, 5) := ⟨⟨by decide +kernel, by decide +kernel⟩, List.mem_of_getElem? (i := 75) (by decide +kernel), List.mem_of_getElem? (i := 614) (by decide +kernel), List.mem_of_getElem? (i := 615) (by decide +kernel)⟩
theorem lw_p18 : lw_okq (⟨"ForkHall$TreeMerge", "countCrowdedPaths", "()I"⟩, 5) := ⟨⟨by decide +kernel, by decide +kernel⟩, List.mem_of_getElem? (i := 75) (by decide +kernel), List.mem_of_getElem? (i := 622) (by decide +kernel), List.mem_of_getElem? (i := 623) (by decide +kernel)⟩
theorem lw_p19 : lw_okq (⟨"ForkHall", "listCommitsNotIn", "(II)I"⟩, 7) := ⟨⟨by decide +kernel, by decide +kernel⟩, List.mem_of_getElem? (i := 23) (by decide +kernel), List.mem_of_getElem? (i := 654) (by decide +kernel), List.mem_of_getElem? (i := 655) (by decide +kernel)⟩
theorem lw_p20 : lw_okq (⟨"ForkHall", "applyListed", "(II)I"⟩, 7) := ⟨⟨by decide +kernel, by decide +kernel⟩, List.mem_of_getElem? (i := 23) (by decide +kernel), List.mem_of_getElem? (i := 659) (by decide +kernel), List.mem_of_getElem? (i := 660) (by decide +kernel)⟩
theorem lw_p21 : lw_okq (⟨"ForkHall$History", "clearMarks", "()V"⟩, 8) := ⟨⟨by decide +kernel, by decide +kernel⟩, List.mem_of_getElem? (i := 31) (by decide +kernel), List.mem_of_getElem? (i := 720) (by decide +kernel), List.mem_of_getElem? (i := 721) (by decide +kernel)⟩
theorem lw_p22 : lw_okq (⟨"ForkHall$History", "mark", "(II)V"⟩, 8) := ⟨⟨by decide +kernel, by decide +kernel⟩, List.mem_of_getElem? (i := 31) (by decide +kernel), List.mem_of_getElem? (i := 724) (by decide +kernel), List.mem_of_getElem? (i := 725) (by decide +kernel)⟩
theorem lw_p23 : lw_okq (⟨"ForkHall$History", "markParents", "(I)V"⟩, 8) := ⟨⟨by decide +kernel, by decide +kernel⟩, List.mem_of_getElem? (i := 31) (by decide +kernel), List.mem_of_getElem? (i := 728) (by decide +kernel), List.mem_of_getElem? (i := 729) (by decide +kernel)⟩
theorem lw_p24 : lw_okq (⟨"ForkHall$History", "marksAt", "(I)I"⟩, 8) := ⟨⟨by decide +kernel, by decide +kernel⟩, List.mem_of_getElem? (i := 31) (by decide +kernel), List.mem_of_getElem? (i := 732) (by decide +kernel), List.mem_of_getElem? (i := 733) (by decide +kernel)⟩
theorem lw_p25 : lw_okq (⟨"ForkHall$Pack", "hasPlace", "(I)Z"⟩, 6) := ⟨⟨by decide +kernel, by decide +kernel⟩, List.mem_of_getElem? (i := 120) (by decide +kernel), List.mem_of_getElem? (i := 817) (by decide +kernel), List.mem_of_getElem? (i := 818) (by decide +kernel)⟩
theorem lw_p26 : lw_okq (⟨"ForkHallModel", "lacks", "(I)Z"⟩, 25) := ⟨⟨by decide +kernel, by decide +kernel⟩, List.mem_of_getElem? (i := 859) (by decide +kernel), List.mem_of_getElem? (i := 962) (by decide +kernel), List.mem_of_getElem? (i := 963) (by decide +kernel)⟩
theorem lw_p27 : lw_okq (⟨"ForkHallModel", "raises", "(I)I"⟩, 25) := ⟨⟨by decide +kernel, by decide +kernel⟩, List.mem_of_getElem? (i := 859) (by decide +kernel), List.mem_of_getElem? (i := 970) (by decide +kernel), List.mem_of_getElem? (i := 971) (by decide +kernel)⟩
theorem lw_p28 : lw_okq (⟨"ForkHallModel", "changed", "()I"⟩, 25) := ⟨⟨by decide +kernel, by decide +kernel⟩, List.mem_of_getElem? (i := 859) (by decide +kernel), List.mem_of_getElem? (i := 982) (by decide +kernel), List.mem_of_getElem? (i := 983) (by decide +kernel)⟩
theorem lw_p29 : lw_okq (⟨"ForkHallModel", "made", "([III)I"⟩, 25) := ⟨⟨by decide +kernel, by decide +kernel⟩, List.mem_of_getElem? (i := 859) (by decide +kernel), List.mem_of_getElem? (i := 990) (by decide +kernel), List.mem_of_getElem? (i := 991) (by decide +kernel)⟩
theorem lw_p30 : lw_okq (⟨"ForkHallModel", "isNone", "(I)Z"⟩, 25) := ⟨⟨by decide +kernel, by decide +kernel⟩, List.mem_of_getElem? (i := 859) (by decide +kernel), List.mem_of_getElem? (i := 1005) (by decide +kernel), List.mem_of_getElem? (i := 1006) (by decide +kernel)⟩
theorem lw_p31 : lw_okq (⟨"ForkHallModel", "becomes", "(I)V"⟩, 25) := ⟨⟨by decide +kernel, by decide +kernel⟩, List.mem_of_getElem? (i := 859) (by decide +kernel), List.mem_of_getElem? (i := 1009) (by decide +kernel), List.mem_of_getElem? (i := 1010) (by decide +kernel)⟩
def lw_privs_2 : List (MethodName × Nat) := [(⟨"ForkHall$TreeMerge", "arrive", "(II)V"⟩, 5), (⟨"ForkHall$TreeMerge", "bringNewFiles", "(I)V"⟩, 5), (⟨"ForkHall$TreeMerge", "countCrowdedPaths", "()I"⟩, 5), (⟨"ForkHall", "listCommitsNotIn", "(II)I"⟩, 7), (⟨"ForkHall", "applyListed", "(II)I"⟩, 7), (⟨"ForkHall$History", "clearMarks", "()V"⟩, 8), (⟨"ForkHall$History", "mark", "(II)V"⟩, 8), (⟨"ForkHall$History", "markParents", "(I)V"⟩, 8), (⟨"ForkHall$History", "marksAt", "(I)I"⟩, 8), (⟨"ForkHall$Pack", "hasPlace", "(I)Z"⟩, 6), (⟨"ForkHallModel", "lacks", "(I)Z"⟩, 25), (⟨"ForkHallModel", "raises", "(I)I"⟩, 25), (⟨"ForkHallModel", "changed", "()I"⟩, 25), (⟨"ForkHallModel", "made", "([III)I"⟩, 25), (⟨"ForkHallModel", "isNone", "(I)Z"⟩, 25), (⟨"ForkHallModel", "becomes", "(I)V"⟩, 25)]
theorem lw_r2 : ∀ q ∈ lw_privs_2, lw_okq q := List.forall_mem_cons.mpr ⟨lw_p16, List.forall_mem_cons.mpr ⟨lw_p17, List.forall_mem_cons.mpr ⟨lw_p18, List.forall_mem_cons.mpr ⟨lw_p19, List.forall_mem_cons.mpr ⟨lw_p20, List.forall_mem_cons.mpr ⟨lw_p21, List.forall_mem_cons.mpr ⟨lw_p22, List.forall_mem_cons.mpr ⟨lw_p23, List.forall_mem_cons.mpr ⟨lw_p24, List.forall_mem_cons.mpr ⟨lw_p25, List.forall_mem_cons.mpr ⟨lw_p26, List.forall_mem_cons.mpr ⟨lw_p27, List.forall_mem_cons.mpr ⟨lw_p28, List.forall_mem_cons.mpr ⟨lw_p29, List.forall_mem_cons.mpr ⟨lw_p30, List.forall_mem_cons.mpr ⟨lw_p31, fun _ h => absurd h List.not_mem_nil⟩⟩⟩⟩⟩⟩⟩⟩⟩⟩⟩⟩⟩⟩⟩⟩
theorem lw_p32 : lw_okq (⟨"ForkHallModel", "isCommit", "(I)Z"⟩, 25) := ⟨⟨by decide +kernel, by decide +kernel⟩, List.mem_of_getElem? (i := 859) (by decide +kernel), List.mem_of_getElem? (i := 1017) (by decide +kernel), List.mem_of_getElem? (i := 1018) (by decide +kernel)⟩
theorem lw_p33 : lw_okq (⟨"ForkHallModel", "isAbove", "(II)Z"⟩, 25) := ⟨⟨by decide +kernel, by decide +kernel⟩, List.mem_of_getElem? (i := 859) (by decide +kernel), List.mem_of_getElem? (i := 1025) (by decide +kernel), List.mem_of_getElem? (i := 1026) (by decide +kernel)⟩
theorem lw_p34 : lw_okq (⟨"ForkHallModel", "findsAbove", "(I[Z)V"⟩, 25) := ⟨⟨by decide +kernel, by decide +kernel⟩, List.mem_of_getElem? (i := 859) (by decide +kernel), List.mem_of_getElem? (i := 1029) (by decide +kernel), List.mem_of_getElem? (i := 1030) (by decide +kernel)⟩
theorem lw_p35 : lw_okq (⟨"ForkHallModel", "bestBase", "(II)I"⟩, 25) := ⟨⟨by decide +kernel, by decide +kernel⟩, List.mem_of_getElem? (i := 859) (by decide +kernel), List.mem_of_getElem? (i := 1033) (by decide +kernel), List.mem_of_getElem? (i := 1034) (by decide +kernel)⟩
theorem lw_p36 : lw_okq (⟨"ForkHallModel", "findsBases", "(II)I"⟩, 25) := ⟨⟨by decide +kernel, by decide +kernel⟩, List.mem_of_getElem? (i := 859) (by decide +kernel), List.mem_of_getElem? (i := 1037) (by decide +kernel), List.mem_of_getElem? (i := 1038) (by decide +kernel)⟩
theorem lw_p37 : lw_okq (⟨"ForkHallModel", "merges", "([I[I[I)I"⟩, 25) := ⟨⟨by decide +kernel, by decide +kernel⟩, List.mem_of_getElem? (i := 859) (by decide +kernel), List.mem_of_getElem? (i := 1041) (by decide +kernel), List.mem_of_getElem? (i := 1042) (by decide +kernel)⟩
theorem lw_p38 : lw_okq (⟨"ForkHallModel", "findsMoves", "([I[I[I)V"⟩, 25) := ⟨⟨by decide +kernel, by decide +kernel⟩, List.mem_of_getElem? (i := 859) (by decide +kernel), List.mem_of_getElem? (i := 1045) (by decide +kernel), List.mem_of_getElem? (i := 1046) (by decide +kernel)⟩
theorem lw_p39 : lw_okq (⟨"ForkHallModel", "follows", "([I[I[II)Z"⟩, 25) := ⟨⟨by decide +kernel, by decide +kernel⟩, List.mem_of_getElem? (i := 859) (by decide +kernel), List.mem_of_getElem? (i := 1058) (by decide +kernel), List.mem_of_getElem? (i := 1059) (by decide +kernel)⟩
theorem lw_p40 : lw_okq (⟨"ForkHallModel", "comes", "(II)V"⟩, 25) := ⟨⟨by decide +kernel, by decide +kernel⟩, List.mem_of_getElem? (i := 859) (by decide +kernel), List.mem_of_getElem? (i := 1068) (by decide +kernel), List.mem_of_getElem? (i := 1069) (by decide +kernel)⟩
theorem lw_p41 : lw_okq (⟨"ForkHallModel", "applied", "(II)I"⟩, 25) := ⟨⟨by decide +kernel, by decide +kernel⟩, List.mem_of_getElem? (i := 859) (by decide +kernel), List.mem_of_getElem? (i := 1079) (by decide +kernel), List.mem_of_getElem? (i := 1080) (by decide +kernel)⟩
theorem lw_p42 : lw_okq (⟨"ForkHallModel", "findsGenerations", "()V"⟩, 25) := ⟨⟨by decide +kernel, by decide +kernel⟩, List.mem_of_getElem? (i := 859) (by decide +kernel), List.mem_of_getElem? (i := 1107) (by decide +kernel), List.mem_of_getElem? (i := 1108) (by decide +kernel)⟩
theorem lw_p43 : lw_okq (⟨"ForkHallModel", "areCommits", "(II)Z"⟩, 25) := ⟨⟨by decide +kernel, by decide +kernel⟩, List.mem_of_getElem? (i := 859) (by decide +kernel), List.mem_of_getElem? (i := 1116) (by decide +kernel), List.mem_of_getElem? (i := 1117) (by decide +kernel)⟩
theorem lw_p44 : lw_okq (⟨"ForkHallModel", "packsAll", "()V"⟩, 25) := ⟨⟨by decide +kernel, by decide +kernel⟩, List.mem_of_getElem? (i := 859) (by decide +kernel), List.mem_of_getElem? (i := 1154) (by decide +kernel), List.mem_of_getElem? (i := 1155) (by decide +kernel)⟩
theorem lw_p45 : lw_okq (⟨"ForkHallModel", "packedAt", "(I)I"⟩, 25) := ⟨⟨by decide +kernel, by decide +kernel⟩, List.mem_of_getElem? (i := 859) (by decide +kernel), List.mem_of_getElem? (i := 1158) (by decide +kernel), List.mem_of_getElem? (i := 1159) (by decide +kernel)⟩
theorem lw_p46 : lw_okq (⟨"ForkHallModel", "packs", "(I)V"⟩, 25) := ⟨⟨by decide +kernel, by decide +kernel⟩, List.mem_of_getElem? (i := 859) (by decide +kernel), List.mem_of_getElem? (i := 1162) (by decide +kernel), List.mem_of_getElem? (i := 1163) (by decide +kernel)⟩
theorem lw_p47 : lw_okq (⟨"ForkHallModel", "sum", "()J"⟩, 25) := ⟨⟨by decide +kernel, by decide +kernel⟩, List.mem_of_getElem? (i := 859) (by decide +kernel), List.mem_of_getElem? (i := 1178) (by decide +kernel), List.mem_of_getElem? (i := 1179) (by decide +kernel)⟩
def lw_privs_3 : List (MethodName × Nat) := [(⟨"ForkHallModel", "isCommit", "(I)Z"⟩, 25), (⟨"ForkHallModel", "isAbove", "(II)Z"⟩, 25), (⟨"ForkHallModel", "findsAbove", "(I[Z)V"⟩, 25), (⟨"ForkHallModel", "bestBase", "(II)I"⟩, 25), (⟨"ForkHallModel", "findsBases", "(II)I"⟩, 25), (⟨"ForkHallModel", "merges", "([I[I[I)I"⟩, 25), (⟨"ForkHallModel", "findsMoves", "([I[I[I)V"⟩, 25), (⟨"ForkHallModel", "follows", "([I[I[II)Z"⟩, 25), (⟨"ForkHallModel", "comes", "(II)V"⟩, 25), (⟨"ForkHallModel", "applied", "(II)I"⟩, 25), (⟨"ForkHallModel", "findsGenerations", "()V"⟩, 25), (⟨"ForkHallModel", "areCommits", "(II)Z"⟩, 25), (⟨"ForkHallModel", "packsAll", "()V"⟩, 25), (⟨"ForkHallModel", "packedAt", "(I)I"⟩, 25), (⟨"ForkHallModel", "packs", "(I)V"⟩, 25), (⟨"ForkHallModel", "sum", "()J"⟩, 25)]
theorem lw_r3 : ∀ q ∈ lw_privs_3, lw_okq q := List.forall_mem_cons.mpr ⟨lw_p32, List.forall_mem_cons.mpr ⟨lw_p33, List.forall_mem_cons.mpr ⟨lw_p34, List.forall_mem_cons.mpr ⟨lw_p35, List.forall_mem_cons.mpr ⟨lw_p36, List.forall_mem_cons.mpr ⟨lw_p37, List.forall_mem_cons.mpr ⟨lw_p38, List.forall_mem_cons.mpr ⟨lw_p39, List.forall_mem_cons.mpr ⟨lw_p40, List.forall_mem_cons.mpr ⟨lw_p41, List.forall_mem_cons.mpr ⟨lw_p42, List.forall_mem_cons.mpr ⟨lw_p43, List.forall_mem_cons.mpr ⟨lw_p44, List.forall_mem_cons.mpr ⟨lw_p45, List.forall_mem_cons.mpr ⟨lw_p46, List.forall_mem_cons.mpr ⟨lw_p47, fun _ h => absurd h List.not_mem_nil⟩⟩⟩⟩⟩⟩⟩⟩⟩⟩⟩⟩⟩⟩⟩⟩
def lw_privs : List (MethodName × Nat) := lw_privs_1 ++ (lw_privs_2 ++ (lw_privs_3))
def lw_tbl : List Cond := k2_sels lw_privs ++ tables_1
theorem lw_privs_ok : ∀ q ∈ lw_privs, lw_okq q := by
  show ∀ q ∈ lw_privs_1 ++ (lw_privs_2 ++ (lw_privs_3)), lw_okq q
  exact List.forall_mem_append.mpr ⟨lw_r1, List.forall_mem_append.mpr ⟨lw_r2, lw_r3⟩⟩
/-- the streams that the claim lets the run draw from -/
abbrev lw_cs : List Choice := [Jvm.Choice.named "NaN.bits"]
theorem lw_bits : nanBits ∈ lw_cs := by first | decide | exact List.mem_cons_self | simp [lw_cs, nanBits]
end
section
/-! ===== BEGIN words of one list among another's, by their places ===== -/
theorem goodIn_r {big : List Cond} (ws : List Cond) (ps : List Nat) (hp : ws = ps.filterMap (fun i => big[i]?)) (h : ws.all goodWord = true) : GoodIn big ws := by
  intro w hw
  have h1 := List.all_eq_true.mp h w hw
  rw [hp] at hw
  obtain ⟨i, -, hi⟩ := List.mem_filterMap.mp hw
  have hm : w ∈ big := by first | exact List.mem_of_getElem? hi | exact List.getElem?_mem hi
  exact ⟨hm, good_of_word h1⟩
theorem goodIn_app {big a b : List Cond} (ha : GoodIn big a) (hb : GoodIn big b) : GoodIn big (a ++ b) := fun w h => (List.mem_append.mp h).elim (ha w) (hb w)
theorem goodIn_ca {big a b : List Cond} {c : Cond} (ha : GoodIn big (c :: a)) (hb : GoodIn big b) : GoodIn big (c :: (a ++ b)) := fun w h => (List.mem_cons.mp h).elim (fun e => ha w (List.mem_cons.mpr (Or.inl e))) (fun h => (List.mem_append.mp h).elim (fun h => ha w (List.mem_cons.mpr (Or.inr h))) (hb w))
theorem goodIn_sub {big ws : List Cond} (hm : ∀ w ∈ ws, w ∈ big) (h : ws.all goodWord = true) : GoodIn big ws := fun w hw => ⟨hm w hw, good_of_word (List.all_eq_true.mp h w hw)⟩
/-! ===== END ===== -/

/-! ===== BEGIN exceptions that leave a method, and their catching by the caller (launches without stack traces) ===== -/
section VXA
/-! The laws vx_back, vx_callV, vx_callS, vx_callSW, vx_throw0, vx_throwS follow proofs of the library, with one case more: JvmDerived/Free/Laws.lean (Back.of_free), Shelf42/LK1.lean (callV, callS), Shelf/KitTraced.lean (throwNew0V, throwNewS). -/
/-- where a method has thrown q: the class by its name, the cell, what was written, the world -/
def vx_T (XC : String → State → State → Prop) (st : State) (q : Addr) (t : State) (mc ms : Nat) (free : Addr → Prop) : Prop :=
  ∃ (E : String) (ce : Cell) (L : List Loc), XC E st t ∧ t.heap[q]? = some ce ∧ ce.vm = .none ∧ st.vm.findClass E = some ce.cls ∧ st.WarmedH t.vm ∧ st.sameButNew ({ t with vm := st.vm } : State) L mc ms ∧ ∀ z ∈ L, free z.base
def vx_Q (Qc : Array Value → State → Outcome → State → Prop) (XC : String → State → State → Prop) (mc ms : Nat) (free : Addr → Prop) : Array Value → State → Outcome → State → Prop := fun a st o t =>
  (Qc a st o t ∧ ∃ L, FrameEnd st o t L mc ms ∧ ∀ q ∈ L, free q.base) ∨ ∃ q, o = .threw q ∧ vx_T XC st q t mc ms free
/-- a callee that returns or throws -/
def vx_Met (l : Launch) (y : MethodName) (ws : List Cond) (rm : Room) (Pc : Array Value → State → Prop) (Qc : Array Value → State → Outcome → State → Prop) (XC : String → State → State → Prop) (mc ms : Nat) (free : Addr → Prop) : Prop :=
  MetFree l y (headSpec ws rm) Pc (fun _ _ _ _ _ => True) (vx_Q Qc XC mc ms free)
def vx_Post (XC : String → State → State → Prop) (mc ms : Nat) (free : Addr → Prop) : Pt → Array Value → Addr → Pt → Prop := fun A a q B =>
  ∃ (g : JFrame) (mk : MethodId) (t : State) (L : List Loc) (E : String) (ce : Cell), B.U.heap = t.heap ∧ B.U.vm = t.vm ∧ XC E (A.U.calling g mk a) t ∧ t.heap[q]? = some ce ∧ ce.vm = .none ∧ A.U.vm.findClass E = some ce.cls ∧ B.locs = A.locs ++ L ∧ (∀ z ∈ L, free z.base) ∧ B.cells = A.cells + mc ∧ B.slots = A.slots + ms
def vx_Back (l : Launch) (R : Room) (p : Program) (e : Env) (below : List Frame) (s : State) (sargs : Array Value) (y : MethodName) (len W9 : Nat)
    (Pre : Pt → Array Value → Prop) (Post : Pt → Array Value → Option Value → Pt → Prop) (PostX : Pt → Array Value → Addr → Pt → Prop) : Prop :=
  ∀ (m : MethodId) (meth : Method) (c : Code) (A : Pt) (g : JFrame) (ig : Instr) (mk : MethodId) (a : Array Value),
    Stand p l e R s m sargs below meth c A.U A.locs A.cells A.slots → g.method = m → g.locals.size = c.maxLocals → decode c.code g.pc = .ok (ig, len) →
    2 * g.monitorRoom + (g.stack.map fun v => v.category).sum ≤ W9 → A.U.methodNamed? y = some mk → Pre A a →
    (∃ (v : Option Value) (B : Pt), Stand p l e R s m sargs below meth c B.U B.locs B.cells B.slots ∧ Post A a v B ∧
      Steps p.tables e below (doInvoke e (A.U.setTop g) [] mk a).1 (B.U.setTop { g with pc := g.pc + len, stack := v.toList ++ g.stack })) ∨
    (∃ (q : Addr) (B : Pt), Stand p l e R s m sargs below meth c B.U B.locs B.cells B.slots ∧ PostX A a q B ∧
      Steps p.tables e below (doInvoke e (A.U.setTop g) [] mk a).1 ((B.U.setTop g).pushFrame (.throwing q)))
section Payer
variable {l : Launch} {R : Room} {p : Program} {e : Env} {below : List Frame} {s : State} {sargs : Array Value} {y : MethodName} {len W9 : Nat}
theorem vx_back {ws : List Cond} {rm : Room} {Pc : Array Value → State → Prop} {Qc : Array Value → State → Outcome → State → Prop} {XC : String → State → State → Prop} {mc ms : Nat} {free : Addr → Prop} {bytes : ByteArray} {maxL : Nat} {ret : Option FieldType}
    (hM : vx_Met l y ws rm Pc Qc XC mc ms free) (hblind : FrameBlind Pc) (hrc : rm.cells = mc) (hrs : rm.slots = ms)
    (hframes : rm.frames + 1 ≤ R.frames) (hlocals : W9 + (maxL + 11) + rm.locals ≤ R.locals)
    (hws : ∀ w ∈ ws, ∀ a' U, s.WarmedH U.vm → w.before a' U = true) (hcode : Cond.code y bytes maxL ret ∈ ws) (hinit : ∀ a' U, s.WarmedH U.vm → (Cond.initialized y.cls).before a' U = true) :
    vx_Back l R p e below s sargs y len W9 (PreOf R mc ms Pc) (PostOf Qc mc ms free) (vx_Post XC mc ms free) := by
  intro m meth c A g ig mk a X hg hsize hdg hW hn hp
  have h1 : (headSpec ws rm).pre.before a A.U = true := atoms_intro fun w hw => hws w hw _ _ X.warmed
  have h2 : (Cond.code y bytes maxL ret).before a A.U = true := hws _ hcode _ _ X.warmed
  have h3 : (Cond.initialized y.cls).before a A.U = true := hinit _ _ X.warmed
  have h4 : A.cells + (headSpec ws rm).room.cells ≤ R.cells := by rw [show (headSpec ws rm).room.cells = mc from hrc]; exact hp.1
  have h5 : A.slots + (headSpec ws rm).room.slots ≤ R.slots := by rw [show (headSpec ws rm).room.slots = ms from hrs]; exact hp.2.1
  have hPc : Pc a (A.U.calling g mk a) := hblind _ _ _ _ hp.2.2
  obtain ⟨U, Ls, c0, s0⟩ := A
  dsimp only [Pt.U, Pt.locs, Pt.cells, Pt.slots] at h1 h2 h3 h4 h5 X hn hPc ⊢
  obtain ⟨methY, cY, hmY, hcY, -, hlY, -, -, -, -⟩ := Cond.code_spec hn h2
  obtain ⟨kY, hkY, -⟩ := className_of_methodNamed hn
  have hinitY : kY.init = .initialized := Cond.initialized_spec (findClass_of_methodNamed hn) hkY h3
  have h : At U g.method c below := by rw [hg]; exact X.here
  have hlocals9 : W9 + (maxL + 11) + (headSpec ws rm).room.locals ≤ R.locals := hlocals
  have happ : (headSpec ws rm).appliesLoose y e.platform (U.calling g mk a) = true :=
    Spec.appliesLoose_calling (g := g) h hdg hn hkY hinitY
      (X.room_calling (g := g) (R' := (headSpec ws rm).room) hsize hmY hcY hframes (by rw [hlY]; omega) h4 h5) h1
  obtain ⟨mid, hmid⟩ := h.above
  have hfr : (U.setTop g).frames = (.java g :: mid) ++ below := by rw [State.frames_setTop' g h.top, hmid]; rfl
  obtain ⟨o, s₂, hsteps, -, hend, hq⟩ := Steps.callFree hM p X.admits X.cas X.clock (acts := []) hfr happ hPc trivial
  have hq' : vx_Q Qc XC mc ms free a (U.calling g mk a) o s₂ := hq
  rw [State.frames_setTop' g h.top] at hend
  obtain ⟨g₀, hg0⟩ := Option.isSome_iff_exists.mp h.top
  obtain ⟨r, hr⟩ := State.topJava?_eq_some.mp hg0
  have hr' : (({ U with heap := s₂.heap, slotsUsed := s₂.slotsUsed } : State).setVm s₂.vm).frames = .java g₀ :: r := hr
  rcases hq' with ⟨hqc, L, hfe, hL⟩ | ⟨q, rfl, E, ce, L, hx, hce, hcv, hcl, hW₂, hsm, hL⟩
  · obtain ⟨⟨v, rfl⟩, hW₂, e2, q2, q3, q4, q5, q6⟩ := id hfe
    have e3 : s₂ = ({ (U.calling g mk a).setFrames s₂.frames with heap := s₂.heap, slotsUsed := s₂.slotsUsed } : State).setVm s₂.vm := by
      have : s₂ = ({ s₂ with vm := (U.calling g mk a).vm } : State).setVm s₂.vm := rfl
      rw [e2] at this
      exact this
    obtain ⟨c₂, i₂, len₂, hc₂, hd₂, hf₂⟩ := hend
    have hW' : U.WarmedH s₂.vm := hW₂
    have hcc : c₂ = c := by
      have h1 : s₂.code? g.method = U.code? g.method := by
        rw [State.code?_eq, State.code?_eq, hW'.alike.method?]
      exact Option.some.inj (hc₂.symm.trans (h1.trans h.code))
    subst hcc
    have hlen : len₂ = len := by rw [hdg] at hd₂; cases hd₂; rfl
    subst hlen
    have hs₂ : s₂ = (({ U with heap := s₂.heap, slotsUsed := s₂.slotsUsed } : State).setVm s₂.vm).setTop { g with pc := g.pc + len₂, stack := v.toList ++ g.stack } := by
      refine e3.trans ?_
      rw [hf₂, State.calling_eq h.top, State.setFrames_setFrames, State.setTop_of_frames _ hr', hr]
      rfl
    have hsame : U.sameButNew ({ U with heap := s₂.heap, slotsUsed := s₂.slotsUsed } : State) L mc ms := by
      refine ⟨?_, q2, q3, q4, q5, q6⟩
      obtain ⟨t, ht, -⟩ := State.frames_cons hr
      show ({ U with heap := s₂.heap, slotsUsed := s₂.slotsUsed } : State) = { U.setFrames U.frames with heap := s₂.heap, slotsUsed := s₂.slotsUsed }
      rw [State.setFrames_self ht]
    subst hg
    refine Or.inl ⟨v, ⟨(({ U with heap := s₂.heap, slotsUsed := s₂.slotsUsed } : State).setVm s₂.vm), Ls ++ L, c0 + mc, s0 + ms⟩,
      ⟨X.admits, X.cas, X.clock, X.frames, X.room, X.hears, X.method, X.code, (X.here.setHeapUsed s₂.heap s₂.slotsUsed).setVm hW'.alike, X.tail, State.WarmedH.trans X.warmed hW', X.limits, X.bytes, X.same.trans (hsame.setVm s.vm)⟩,
      ⟨g, mk, s₂, L, rfl, rfl, hqc, rfl, hL, rfl, rfl⟩, ?_⟩
    show Steps p.tables e below _ ((({ U with heap := s₂.heap, slotsUsed := s₂.slotsUsed } : State).setVm s₂.vm).setTop { g with pc := g.pc + len₂, stack := v.toList ++ g.stack })
    rw [← hs₂]
    exact hsteps
  · obtain ⟨e2, q2, q3, q4, q5, q6⟩ := id hsm
    have e3 : s₂ = ({ (U.calling g mk a).setFrames s₂.frames with heap := s₂.heap, slotsUsed := s₂.slotsUsed } : State).setVm s₂.vm := by
      have : s₂ = ({ s₂ with vm := (U.calling g mk a).vm } : State).setVm s₂.vm := rfl
      rw [e2] at this
      exact this
    have hf₂ : s₂.frames = .throwing q :: .java g :: U.frames.tail := hend
    have hW' : U.WarmedH s₂.vm := hW₂
    have hs₂ : s₂ = ((({ U with heap := s₂.heap, slotsUsed := s₂.slotsUsed } : State).setVm s₂.vm).setTop g).pushFrame (.throwing q) := by
      refine e3.trans ?_
      rw [hf₂, State.calling_eq h.top, State.setFrames_setFrames, State.pushFrame, State.frames_setTop _ hr', State.setTop_of_frames _ hr', State.setFrames_setFrames, hr]
      rfl
    have hsame : U.sameButNew ({ U with heap := s₂.heap, slotsUsed := s₂.slotsUsed } : State) L mc ms := by
      refine ⟨?_, q2, q3, q4, q5, q6⟩
      obtain ⟨t, ht, -⟩ := State.frames_cons hr
      show ({ U with heap := s₂.heap, slotsUsed := s₂.slotsUsed } : State) = { U.setFrames U.frames with heap := s₂.heap, slotsUsed := s₂.slotsUsed }
      rw [State.setFrames_self ht]
    subst hg
    refine Or.inr ⟨q, ⟨(({ U with heap := s₂.heap, slotsUsed := s₂.slotsUsed } : State).setVm s₂.vm), Ls ++ L, c0 + mc, s0 + ms⟩,
      ⟨X.admits, X.cas, X.clock, X.frames, X.room, X.hears, X.method, X.code, (X.here.setHeapUsed s₂.heap s₂.slotsUsed).setVm hW'.alike, X.tail, State.WarmedH.trans X.warmed hW', X.limits, X.bytes, X.same.trans (hsame.setVm s.vm)⟩,
      ⟨g, mk, s₂, L, E, ce, rfl, rfl, hx, hce, hcv, hcl, rfl, hL, rfl, rfl⟩, ?_⟩
    show Steps p.tables e below _ (((({ U with heap := s₂.heap, slotsUsed := s₂.slotsUsed } : State).setVm s₂.vm).setTop g).pushFrame (.throwing q))
    rw [← hs₂]
    exact hsteps
end Payer
section Calls
variable {p : Program} {l : Launch} {e : Env} {R : Room} {s : State} {m : MethodId} {args : Array Value} {below : List Frame} {meth : Method} {c : Code} {T : State} {locs : List Loc} {cells slots : Nat}
theorem vx_callV (X : Stand p l e R s m args below meth c T locs cells slots) (hexec : p.tables.exec = Jvm.exec) {own C : String} {index : Nat} {y : MethodName} {bytes : ByteArray} {maxL : Nat} {ret : Option FieldType}
    (hown : s.vm.findClass own = some m.cls) (hlink : (Cond.methodLink own index y).before args s = true) (hinst : (Cond.instanceMethod y).before args s = true) (hsel : (Cond.selects C y y).before args s = true)
    (hcode : (Cond.code y bytes maxL ret).before args s = true) (hy : y.cls ≠ "java/lang/invoke/MethodHandle" ∧ y.cls ≠ "java/lang/invoke/VarHandle")
    {W9 : Nat} {Pre : Pt → Array Value → Prop} {Post : Pt → Array Value → Option Value → Pt → Prop} {PostX : Pt → Array Value → Addr → Pt → Prop} (hK : vx_Back l R p e below s args y 3 W9 Pre Post PostX)
    {b : Addr} {cellB : Cell} (hcell : T.heap[b]? = some cellB) (hobj : cellB.vm.isStatics = false) (hcls : s.vm.findClass C = some cellB.cls)
    {g : JFrame} (hg : g.method = m) (hsize : g.locals.size = c.maxLocals) {argsL rest : List Value} (hlen : ∀ sig, parseMethodDescriptor y.desc = some sig → argsL.length = sig.parameters.length)
    (hstack : g.stack = argsL.reverse ++ .ref b :: rest) (hW : 2 * g.monitorRoom + (rest.map fun v => v.category).sum ≤ W9) (hdg : decode c.code g.pc = .ok (.invokevirtual index, 3))
    (hpre : ∀ vm₁, s.WarmedH vm₁ → Pre ⟨T.setVm vm₁, locs, cells, slots⟩ (Value.ref b :: argsL).toArray) :
    (∃ (v : Option Value) (vm₁ : Vm) (B : Pt), s.WarmedH vm₁ ∧ Stand p l e R s m args below meth c B.U B.locs B.cells B.slots ∧ Post ⟨T.setVm vm₁, locs, cells, slots⟩ (Value.ref b :: argsL).toArray v B ∧
      ∀ target, Steps p.tables e below (B.U.setTop { g with pc := g.pc + 3, stack := v.toList ++ rest }) target → Steps p.tables e below (T.setTop g) target) ∨
    (∃ (q : Addr) (vm₁ : Vm) (B : Pt), s.WarmedH vm₁ ∧ Stand p l e R s m args below meth c B.U B.locs B.cells B.slots ∧ PostX ⟨T.setVm vm₁, locs, cells, slots⟩ (Value.ref b :: argsL).toArray q B ∧
      Steps p.tables e below (T.setTop g) ((B.U.setTop { g with stack := rest }).pushFrame (.throwing q))) := by
  obtain ⟨mk, methM, hnamed, hmethM, hstM, habM⟩ := Cond.instanceMethod_spec hinst
  obtain ⟨methM', cM, hmethM', -, -, -, -, -, -, hsigM⟩ := Cond.code_spec hnamed hcode
  cases hmethM.symm.trans hmethM'
  obtain ⟨c2, r2, m2, q1, q2, q3, q4, kP, hkP, hkPi⟩ := Cond.selects_spec hsel
  cases hcls.symm.trans q1
  cases (State.methodFound?_of_named hnamed hy).symm.trans q2
  cases hnamed.symm.trans q3
  have hselP : selectMethod e.platform s.vm cellB.cls mk = .method mk := by rw [Launch.admits_selectMethod X.admits]; exact q4
  obtain ⟨vm₁, X₁, hstep₁⟩ := X.invokevirtual hexec hown hlink hnamed hmethM hstM hkP hkPi hy (a := b) (cell := cellB) hcell
    (fun z h => by rw [h] at hobj; cases hobj) hselP hmethM habM hkP hkPi (g := g) hg (argsL := argsL) (rest := rest) (hlen _ hsigM) hstack hdg
  rcases hK m meth c ⟨T.setVm vm₁, locs, cells, slots⟩ { g with stack := rest } (.invokevirtual index) mk (Value.ref b :: argsL).toArray X₁ hg hsize hdg hW (X₁.named hnamed) (hpre vm₁ X₁.warmed) with ⟨v, B, X', hpost, hsteps⟩ | ⟨q, B, X', hpost, hsteps⟩
  · exact Or.inl ⟨v, vm₁, B, X₁.warmed, X', hpost, fun target h => hstep₁ _ fun acts => by rw [doInvoke_state]; exact hsteps.trans h⟩
  · exact Or.inr ⟨q, vm₁, B, X₁.warmed, X', hpost, hstep₁ _ fun acts => by rw [doInvoke_state]; exact hsteps⟩
theorem vx_callS (X : Stand p l e R s m args below meth c T locs cells slots) (hexec : p.tables.exec = Jvm.exec) {own : String} {index : Nat} {y : MethodName} {bytes : ByteArray} {maxL : Nat} {ret : Option FieldType}
    (hown : s.vm.findClass own = some m.cls) (hlink : (Cond.methodLink own index y).before args s = true) (hstat : (Cond.static y).before args s = true) (hinit : (Cond.initialized y.cls).before args s = true)
    (hcode : (Cond.code y bytes maxL ret).before args s = true) (hy : y.cls ≠ "java/lang/invoke/MethodHandle" ∧ y.cls ≠ "java/lang/invoke/VarHandle")
    {W9 : Nat} {Pre : Pt → Array Value → Prop} {Post : Pt → Array Value → Option Value → Pt → Prop} {PostX : Pt → Array Value → Addr → Pt → Prop} (hK : vx_Back l R p e below s args y 3 W9 Pre Post PostX)
    {g : JFrame} (hg : g.method = m) (hsize : g.locals.size = c.maxLocals) {argsL rest : List Value} (hlen : ∀ sig, parseMethodDescriptor y.desc = some sig → argsL.length = sig.parameters.length)
    (hstack : g.stack = argsL.reverse ++ rest) (hW : 2 * g.monitorRoom + (rest.map fun v => v.category).sum ≤ W9) (hdg : decode c.code g.pc = .ok (.invokestatic index, 3))
    (hpre : ∀ vm₁, s.WarmedH vm₁ → Pre ⟨T.setVm vm₁, locs, cells, slots⟩ argsL.toArray) :
    (∃ (v : Option Value) (vm₁ : Vm) (B : Pt), s.WarmedH vm₁ ∧ Stand p l e R s m args below meth c B.U B.locs B.cells B.slots ∧ Post ⟨T.setVm vm₁, locs, cells, slots⟩ argsL.toArray v B ∧
      ∀ target, Steps p.tables e below (B.U.setTop { g with pc := g.pc + 3, stack := v.toList ++ rest }) target → Steps p.tables e below (T.setTop g) target) ∨
    (∃ (q : Addr) (vm₁ : Vm) (B : Pt), s.WarmedH vm₁ ∧ Stand p l e R s m args below meth c B.U B.locs B.cells B.slots ∧ PostX ⟨T.setVm vm₁, locs, cells, slots⟩ argsL.toArray q B ∧
      Steps p.tables e below (T.setTop g) ((B.U.setTop { g with stack := rest }).pushFrame (.throwing q))) := by
  obtain ⟨mk, hnamed⟩ := Cond.code_named hcode
  obtain ⟨methM, cM, hmethM, -, -, -, -, -, -, hsigM⟩ := Cond.code_spec hnamed hcode
  have hstatic : methM.isStatic = true := Cond.static_spec hnamed hmethM hstat
  obtain ⟨kP, hkP, -⟩ := className_of_methodNamed hnamed
  have hinitP : kP.init = .initialized := Cond.initialized_spec (findClass_of_methodNamed hnamed) hkP hinit
  obtain ⟨vm₁, X₁, hstep₁⟩ := X.invokestatic hexec hown hlink hnamed hmethM hstatic hkP hinitP hy (g := g) hg (argsL := argsL) (rest := rest) (hlen _ hsigM) hstack hdg
  rcases hK m meth c ⟨T.setVm vm₁, locs, cells, slots⟩ { g with stack := rest } (.invokestatic index) mk argsL.toArray X₁ hg hsize hdg hW (X₁.named hnamed) (hpre vm₁ X₁.warmed) with ⟨v, B, X', hpost, hsteps⟩ | ⟨q, B, X', hpost, hsteps⟩
  · exact Or.inl ⟨v, vm₁, B, X₁.warmed, X', hpost, fun target h => hstep₁ _ fun acts => by rw [doInvoke_state]; exact hsteps.trans h⟩
  · exact Or.inr ⟨q, vm₁, B, X₁.warmed, X', hpost, hstep₁ _ fun acts => by rw [doInvoke_state]; exact hsteps⟩
end Calls
theorem vx_cls {s : State} {T : State} {vm₁ : Vm} {E : String} {k : ClassId} (hW : s.WarmedH vm₁) (h : (T.setVm vm₁).vm.findClass E = some k) : s.vm.findClass E = some k := by
  have h1 : vm₁.findClass E = some k := h
  rw [hW.alike.findClass] at h1
  exact h1
/-- the method's frame g, with q thrown over it -/
def vx_W (p : Program) (l : Launch) (e : Env) (R : Room) (s : State) (m : MethodId) (args : Array Value) (below : List Frame) (meth : Method) (c : Code) (H : Heap) (locs : List Loc) (cells slots : Nat) (Q : State → Prop) (g : JFrame) (q : Addr) : Prop :=
  ∀ T : State, T.heap = H → Stand p l e R s m args below meth c T locs cells slots → ∃ t, Steps p.tables e below ((T.setTop g).pushFrame (.throwing q)) t ∧ Q t
def vx_Run (p : Program) (l : Launch) (e : Env) (R : Room) (s : State) (m : MethodId) (args : Array Value) (below : List Frame) (meth : Method) (c : Code) (H : Heap) (locs : List Loc) (cells slots mc ms : Nat) (g : JFrame) (rest : List Value) (Qa : State → Outcome → State → Prop) (XC : String → State → State → Prop) (free : Addr → Prop) : Prop :=
  ∀ T : State, T.heap = H → Stand p l e R s m args below meth c T locs cells slots →
    (∃ (v : Option Value) (st₀ t T' : State) (L : List Loc), st₀.heap = H ∧ Stand p l e R s m args below meth c T' (locs ++ L) (cells + mc) (slots + ms) ∧ (∀ q ∈ L, free q.base) ∧ T'.heap = t.heap ∧ T'.vm = t.vm ∧ Qa st₀ (.returned v) t ∧
      Goes p e below T g T' { g with pc := g.pc + 3, stack := v.toList ++ rest }) ∨
    (∃ (q : Addr) (st₀ t T' : State) (L : List Loc) (E : String) (ce : Cell), st₀.heap = H ∧ Stand p l e R s m args below meth c T' (locs ++ L) (cells + mc) (slots + ms) ∧ (∀ z ∈ L, free z.base) ∧ T'.heap = t.heap ∧ T'.vm = t.vm ∧ XC E st₀ t ∧ t.heap[q]? = some ce ∧ ce.vm = .none ∧ s.vm.findClass E = some ce.cls ∧
      Steps p.tables e below (T.setTop g) ((T'.setTop { g with stack := rest }).pushFrame (.throwing q)))
def vx_X {S : Type} (px : S → Prop) (B : String → S → State → Prop) (A : Nat → Prop) : String → State → State → Prop := fun E st t => ∃ u : S, px u ∧ B E u t ∧ va_F A st t
section Runs
variable {p : Program} {l : Launch} {e : Env} {R : Room} {s : State} {m : MethodId} {args : Array Value} {below : List Frame} {meth : Method} {c : Code} {H : Heap} {locs : List Loc} {cells slots : Nat}
variable {y : MethodName} {bytes cc : ByteArray} {maxL nL mc ms n index : Nat} {ret : Option FieldType} {ws : List Cond} {rm : Room} {Pc : Array Value → State → Prop} {Qc : Array Value → State → Outcome → State → Prop} {XC : String → State → State → Prop} {free : Addr → Prop} {Ts : List Cond} {own C : String} {b : Addr} {As rest : List Value} {g : JFrame}
theorem vx_callBack (cb : CallB R s args own index y bytes maxL ret ws rm mc ms n) (hM : vx_Met l y ws rm Pc Qc XC mc ms free) (hbl : FrameBlind Pc) : vx_Back l R p e below s args y 3 8 (PreOf R mc ms Pc) (PostOf Qc mc ms free) (vx_Post XC mc ms free) := by
  obtain ⟨hrc, hrs, hfr, hlo, hws, hcw, -, hini, -⟩ := cb
  exact vx_back (bytes := bytes) (maxL := maxL) (ret := ret) hM hbl hrc hrs hfr hlo hws hcw (fun a' U hW => word_at hW (Or.inl (by first | rfl | simp [Cond.onTables, Cond.keeps, Cond.steady])) hini)
theorem vx_runV (S : CallFix p m c cc nL s args Ts own) (hM : vx_Met l y ws rm Pc Qc XC mc ms free) (cw : CallW R s args own C index y bytes maxL ret ws rm mc ms n) (hp : PreV s H C b Pc As)
    (hg : g.method = m) (hn : As.length = n) (hsize : g.locals.size = nL) (hstack : g.stack = As.reverse ++ .ref b :: rest) (hW : 2 * g.monitorRoom + (rest.map fun v => v.category).sum ≤ 8) (hdg : decode cc g.pc = .ok (.invokevirtual index, 3)) (hf : cells + mc ≤ R.cells ∧ slots + ms ≤ R.slots) :
    vx_Run p l e R s m args below meth c H locs cells slots mc ms g rest (Qc (Value.ref b :: As).toArray) XC free := by
  have hK : vx_Back l R p e below s args y 3 8 (PreOf R mc ms Pc) (PostOf Qc mc ms free) (vx_Post XC mc ms free) := vx_callBack cw.1 hM hp.1
  obtain ⟨⟨-, -, -, -, -, -, hcode, -, hy, hlen, hl⟩, hin, hse⟩ := cw
  obtain ⟨hx, hb, hml, ho, -⟩ := S
  obtain ⟨-, ⟨cellB, hcB, hoB, hclB⟩, hPc⟩ := hp
  intro T hT X
  rcases vx_callV X hx (C := C) (bytes := bytes) (maxL := maxL) (ret := ret) ho hl hin hse hcode hy hK (by rw [hT]; exact hcB) hoB hclB hg (hsize.trans hml.symm) (argsL := As) (rest := rest) (fun sig h => hn.trans (hlen sig h)) hstack hW (by rw [hb]; exact hdg)
    (fun vm₁ hW₁ => ⟨hf.1, hf.2, hPc (T.setVm vm₁) hT hW₁⟩) with ⟨v, vm₁, ⟨U', l2, c2, s2⟩, hW₁, X', ⟨g', mk, t, L, e1, e2, hq, h1, hL, h2, h3⟩, st⟩ | ⟨q, vm₁, ⟨U', l2, c2, s2⟩, hW₁, X', ⟨g', mk, t, L, E, ce, e1, e2, hq, hce, hcv, hcl, h1, hL, h2, h3⟩, st⟩
  · dsimp only [Pt.U, Pt.locs, Pt.cells, Pt.slots] at X' e1 e2 h1 h2 h3 st
    subst h1; subst h2; subst h3
    exact Or.inl ⟨v, (T.setVm vm₁).calling g' mk (Value.ref b :: As).toArray, t, U', L, hT, X', hL, e1, e2, hq, st⟩
  · dsimp only [Pt.U, Pt.locs, Pt.cells, Pt.slots] at X' e1 e2 h1 h2 h3 st hcl
    subst h1; subst h2; subst h3
    exact Or.inr ⟨q, (T.setVm vm₁).calling g' mk (Value.ref b :: As).toArray, t, U', L, E, ce, hT, X', hL, e1, e2, hq, hce, hcv, vx_cls hW₁ hcl, st⟩
theorem vx_runS (S : CallFix p m c cc nL s args Ts own) (hM : vx_Met l y ws rm Pc Qc XC mc ms free) (cw : CallB R s args own index y bytes maxL ret ws rm mc ms n ∧ (Cond.static y).before args s = true) (hp : PreS s H Pc As)
    (hg : g.method = m) (hn : As.length = n) (hsize : g.locals.size = nL) (hstack : g.stack = As.reverse ++ rest) (hW : 2 * g.monitorRoom + (rest.map fun v => v.category).sum ≤ 8) (hdg : decode cc g.pc = .ok (.invokestatic index, 3)) (hf : cells + mc ≤ R.cells ∧ slots + ms ≤ R.slots) :
    vx_Run p l e R s m args below meth c H locs cells slots mc ms g rest (Qc As.toArray) XC free := by
  have hK : vx_Back l R p e below s args y 3 8 (PreOf R mc ms Pc) (PostOf Qc mc ms free) (vx_Post XC mc ms free) := vx_callBack cw.1 hM hp.1
  obtain ⟨⟨-, -, -, -, -, -, hcode, hini, hy, hlen, hl⟩, hstt⟩ := cw
  obtain ⟨hx, hb, hml, ho, -⟩ := S
  intro T hT X
  rcases vx_callS X hx (bytes := bytes) (maxL := maxL) (ret := ret) ho hl hstt hini hcode hy hK hg (hsize.trans hml.symm) (argsL := As) (rest := rest) (fun sig h => hn.trans (hlen sig h)) hstack hW (by rw [hb]; exact hdg)
    (fun vm₁ hW₁ => ⟨hf.1, hf.2, hp.2 (T.setVm vm₁) hT hW₁⟩) with ⟨v, vm₁, ⟨U', l2, c2, s2⟩, hW₁, X', ⟨g', mk, t, L, e1, e2, hq, h1, hL, h2, h3⟩, st⟩ | ⟨q, vm₁, ⟨U', l2, c2, s2⟩, hW₁, X', ⟨g', mk, t, L, E, ce, e1, e2, hq, hce, hcv, hcl, h1, hL, h2, h3⟩, st⟩
  · dsimp only [Pt.U, Pt.locs, Pt.cells, Pt.slots] at X' e1 e2 h1 h2 h3 st
    subst h1; subst h2; subst h3
    exact Or.inl ⟨v, (T.setVm vm₁).calling g' mk As.toArray, t, U', L, hT, X', hL, e1, e2, hq, st⟩
  · dsimp only [Pt.U, Pt.locs, Pt.cells, Pt.slots] at X' e1 e2 h1 h2 h3 st hcl
    subst h1; subst h2; subst h3
    exact Or.inr ⟨q, (T.setVm vm₁).calling g' mk As.toArray, t, U', L, E, ce, hT, X', hL, e1, e2, hq, hce, hcv, vx_cls hW₁ hcl, st⟩
end Runs
section Rows
variable {p : Program} {l : Launch} {e : Env} {R : Room} {s : State} {m : MethodId} {args : Array Value} {below : List Frame} {meth : Method} {c : Code} {H : Heap} {locs : List Loc} {cells slots : Nat} {Q : State → Prop}
variable {mc ms : Nat} {free : Addr → Prop} {A0 A1 : Nat → Prop} {H0 : Heap} {a : Array Value} {pc : Nat} {ls : Array Slot} {st0 rest : List Value}
theorem vx_keep {st₀ t T' : State} {L : List Loc} (h0 : st₀.heap = H) (e1 : T'.heap = t.heap) (hS : va_S A0 H0 H locs) (hA : ∀ q, q < H.size → A1 q → A0 q) (hf : ∀ q, free q → A0 q) (hL : ∀ q ∈ L, free q.base) (hF : va_F A1 st₀ t) :
    H.size ≤ T'.heap.size ∧ (∀ q : Nat, q < H.size → ¬ A1 q → T'.heap[q]? = H[q]?) ∧ va_S A0 H0 T'.heap (locs ++ L) := by
  obtain ⟨hz, hk⟩ := hF
  rw [h0] at hz hk
  exact ⟨by rw [e1]; exact hz, fun q h1 h2 => by rw [e1]; exact hk q h1 h2,
    ⟨Nat.le_trans hS.1 (by rw [e1]; exact hz), fun q h1 h2 => by rw [e1, hk q (Nat.lt_of_lt_of_le h1 hS.1) (fun z => h2 (hA q (Nat.lt_of_lt_of_le h1 hS.1) z))]; exact hS.2.1 q h1 h2, fun q hq => by
      rcases List.mem_append.mp hq with h | h
      · exact hS.2.2 q h
      · exact hf _ (hL q h)⟩⟩
theorem vx_calli {S SX : Type} {post : Int32 → S → Prop} {px : SX → Prop} {B : S → State → Prop} {BX : String → SX → State → Prop} {AX : Nat → Prop} (hr : vx_Run p l e R s m args below meth c H locs cells slots mc ms (F0 m pc ls st0) rest (va_Qi post B A1 a) (vx_X px BX AX) free) (hS : va_S A0 H0 H locs) (hA : ∀ q, q < H.size → A1 q → A0 q) (hf : ∀ q, free q → A0 q) (hAX : ∀ q, q < H.size → AX q → A0 q)
    (kx : ∀ (E : String) (ce : Cell) (q9 : Addr) (u : SX) (t : State) (H1 : Heap) (locs1 : List Loc), t.heap = H1 → s.vm.Alike t.vm → px u → BX E u t → H.size ≤ H1.size → (∀ q : Nat, q < H.size → ¬ AX q → H1[q]? = H[q]?) → va_S A0 H0 H1 locs1 → H1[q9]? = some ce → ce.vm = .none → s.vm.findClass E = some ce.cls → vx_W p l e R s m args below meth c H1 locs1 (cells + mc) (slots + ms) Q (F0 m pc ls rest) q9)
    (kk : ∀ (r : Int32) (u : S) (t : State) (H1 : Heap) (locs1 : List Loc), t.heap = H1 → s.vm.Alike t.vm → post r u → B u t → H.size ≤ H1.size → (∀ q : Nat, q < H.size → ¬ A1 q → H1[q]? = H[q]?) → va_S A0 H0 H1 locs1 → W p l e R s m args below meth c H1 locs1 (cells + mc) (slots + ms) Q (F0 m (pc + 3) ls (.int r :: rest))) : W p l e R s m args below meth c H locs cells slots Q (F0 m pc ls st0) := by
  intro T hT X
  rcases hr T hT X with ⟨v, st₀, t, T', L, h0, X', hL, e1, e2, ⟨⟨r, u, hv, hp, hb⟩, hF⟩, st⟩ | ⟨q, st₀, t, T', L, E, ce, h0, X', hL, e1, e2, ⟨u, hp, hb, hF⟩, hce, hcv, hcl, st⟩
  · cases hv
    obtain ⟨k1, k2, k3⟩ := vx_keep h0 e1 hS hA hf hL hF
    obtain ⟨t2, a1, b1⟩ := kk r u t T'.heap (locs ++ L) e1.symm (by rw [← e2]; exact X'.warmed.alike) hp hb k1 k2 k3 T' rfl X'
    exact ⟨t2, st t2 a1, b1⟩
  · obtain ⟨k1, k2, k3⟩ := vx_keep h0 e1 hS hAX hf hL hF
    obtain ⟨t2, a1, b1⟩ := kx E ce q u t T'.heap (locs ++ L) e1.symm (by rw [← e2]; exact X'.warmed.alike) hp hb k1 k2 k3 (by rw [e1]; exact hce) hcv hcl T' rfl X'
    exact ⟨t2, st.trans a1, b1⟩
theorem vx_calll {S SX : Type} {post : Int64 → S → Prop} {px : SX → Prop} {B : S → State → Prop} {BX : String → SX → State → Prop} {AX : Nat → Prop} (hr : vx_Run p l e R s m args below meth c H locs cells slots mc ms (F0 m pc ls st0) rest (va_Ql post B A1 a) (vx_X px BX AX) free) (hS : va_S A0 H0 H locs) (hA : ∀ q, q < H.size → A1 q → A0 q) (hf : ∀ q, free q → A0 q) (hAX : ∀ q, q < H.size → AX q → A0 q)
    (kx : ∀ (E : String) (ce : Cell) (q9 : Addr) (u : SX) (t : State) (H1 : Heap) (locs1 : List Loc), t.heap = H1 → s.vm.Alike t.vm → px u → BX E u t → H.size ≤ H1.size → (∀ q : Nat, q < H.size → ¬ AX q → H1[q]? = H[q]?) → va_S A0 H0 H1 locs1 → H1[q9]? = some ce → ce.vm = .none → s.vm.findClass E = some ce.cls → vx_W p l e R s m args below meth c H1 locs1 (cells + mc) (slots + ms) Q (F0 m pc ls rest) q9)
    (kk : ∀ (r : Int64) (u : S) (t : State) (H1 : Heap) (locs1 : List Loc), t.heap = H1 → s.vm.Alike t.vm → post r u → B u t → H.size ≤ H1.size → (∀ q : Nat, q < H.size → ¬ A1 q → H1[q]? = H[q]?) → va_S A0 H0 H1 locs1 → W p l e R s m args below meth c H1 locs1 (cells + mc) (slots + ms) Q (F0 m (pc + 3) ls (.long r :: rest))) : W p l e R s m args below meth c H locs cells slots Q (F0 m pc ls st0) := by
  intro T hT X
  rcases hr T hT X with ⟨v, st₀, t, T', L, h0, X', hL, e1, e2, ⟨⟨r, u, hv, hp, hb⟩, hF⟩, st⟩ | ⟨q, st₀, t, T', L, E, ce, h0, X', hL, e1, e2, ⟨u, hp, hb, hF⟩, hce, hcv, hcl, st⟩
  · cases hv
    obtain ⟨k1, k2, k3⟩ := vx_keep h0 e1 hS hA hf hL hF
    obtain ⟨t2, a1, b1⟩ := kk r u t T'.heap (locs ++ L) e1.symm (by rw [← e2]; exact X'.warmed.alike) hp hb k1 k2 k3 T' rfl X'
    exact ⟨t2, st t2 a1, b1⟩
  · obtain ⟨k1, k2, k3⟩ := vx_keep h0 e1 hS hAX hf hL hF
    obtain ⟨t2, a1, b1⟩ := kx E ce q u t T'.heap (locs ++ L) e1.symm (by rw [← e2]; exact X'.warmed.alike) hp hb k1 k2 k3 (by rw [e1]; exact hce) hcv hcl T' rfl X'
    exact ⟨t2, st.trans a1, b1⟩
theorem vx_callf {S SX : Type} {post : UInt32 → S → Prop} {px : SX → Prop} {B : S → State → Prop} {BX : String → SX → State → Prop} {AX : Nat → Prop} (hr : vx_Run p l e R s m args below meth c H locs cells slots mc ms (F0 m pc ls st0) rest (va_Qf post B A1 a) (vx_X px BX AX) free) (hS : va_S A0 H0 H locs) (hA : ∀ q, q < H.size → A1 q → A0 q) (hf : ∀ q, free q → A0 q) (hAX : ∀ q, q < H.size → AX q → A0 q)
    (kx : ∀ (E : String) (ce : Cell) (q9 : Addr) (u : SX) (t : State) (H1 : Heap) (locs1 : List Loc), t.heap = H1 → s.vm.Alike t.vm → px u → BX E u t → H.size ≤ H1.size → (∀ q : Nat, q < H.size → ¬ AX q → H1[q]? = H[q]?) → va_S A0 H0 H1 locs1 → H1[q9]? = some ce → ce.vm = .none → s.vm.findClass E = some ce.cls → vx_W p l e R s m args below meth c H1 locs1 (cells + mc) (slots + ms) Q (F0 m pc ls rest) q9)
    (kk : ∀ (r : UInt32) (u : S) (t : State) (H1 : Heap) (locs1 : List Loc), t.heap = H1 → s.vm.Alike t.vm → post r u → B u t → H.size ≤ H1.size → (∀ q : Nat, q < H.size → ¬ A1 q → H1[q]? = H[q]?) → va_S A0 H0 H1 locs1 → W p l e R s m args below meth c H1 locs1 (cells + mc) (slots + ms) Q (F0 m (pc + 3) ls (.float r :: rest))) : W p l e R s m args below meth c H locs cells slots Q (F0 m pc ls st0) := by
  intro T hT X
  rcases hr T hT X with ⟨v, st₀, t, T', L, h0, X', hL, e1, e2, ⟨⟨r, u, hv, hp, hb⟩, hF⟩, st⟩ | ⟨q, st₀, t, T', L, E, ce, h0, X', hL, e1, e2, ⟨u, hp, hb, hF⟩, hce, hcv, hcl, st⟩
  · cases hv
    obtain ⟨k1, k2, k3⟩ := vx_keep h0 e1 hS hA hf hL hF
    obtain ⟨t2, a1, b1⟩ := kk r u t T'.heap (locs ++ L) e1.symm (by rw [← e2]; exact X'.warmed.alike) hp hb k1 k2 k3 T' rfl X'
    exact ⟨t2, st t2 a1, b1⟩
  · obtain ⟨k1, k2, k3⟩ := vx_keep h0 e1 hS hAX hf hL hF
    obtain ⟨t2, a1, b1⟩ := kx E ce q u t T'.heap (locs ++ L) e1.symm (by rw [← e2]; exact X'.warmed.alike) hp hb k1 k2 k3 (by rw [e1]; exact hce) hcv hcl T' rfl X'
    exact ⟨t2, st.trans a1, b1⟩
theorem vx_calld {S SX : Type} {post : UInt64 → S → Prop} {px : SX → Prop} {B : S → State → Prop} {BX : String → SX → State → Prop} {AX : Nat → Prop} (hr : vx_Run p l e R s m args below meth c H locs cells slots mc ms (F0 m pc ls st0) rest (va_Qd post B A1 a) (vx_X px BX AX) free) (hS : va_S A0 H0 H locs) (hA : ∀ q, q < H.size → A1 q → A0 q) (hf : ∀ q, free q → A0 q) (hAX : ∀ q, q < H.size → AX q → A0 q)
    (kx : ∀ (E : String) (ce : Cell) (q9 : Addr) (u : SX) (t : State) (H1 : Heap) (locs1 : List Loc), t.heap = H1 → s.vm.Alike t.vm → px u → BX E u t → H.size ≤ H1.size → (∀ q : Nat, q < H.size → ¬ AX q → H1[q]? = H[q]?) → va_S A0 H0 H1 locs1 → H1[q9]? = some ce → ce.vm = .none → s.vm.findClass E = some ce.cls → vx_W p l e R s m args below meth c H1 locs1 (cells + mc) (slots + ms) Q (F0 m pc ls rest) q9)
    (kk : ∀ (r : UInt64) (u : S) (t : State) (H1 : Heap) (locs1 : List Loc), t.heap = H1 → s.vm.Alike t.vm → post r u → B u t → H.size ≤ H1.size → (∀ q : Nat, q < H.size → ¬ A1 q → H1[q]? = H[q]?) → va_S A0 H0 H1 locs1 → W p l e R s m args below meth c H1 locs1 (cells + mc) (slots + ms) Q (F0 m (pc + 3) ls (.double r :: rest))) : W p l e R s m args below meth c H locs cells slots Q (F0 m pc ls st0) := by
  intro T hT X
  rcases hr T hT X with ⟨v, st₀, t, T', L, h0, X', hL, e1, e2, ⟨⟨r, u, hv, hp, hb⟩, hF⟩, st⟩ | ⟨q, st₀, t, T', L, E, ce, h0, X', hL, e1, e2, ⟨u, hp, hb, hF⟩, hce, hcv, hcl, st⟩
  · cases hv
    obtain ⟨k1, k2, k3⟩ := vx_keep h0 e1 hS hA hf hL hF
    obtain ⟨t2, a1, b1⟩ := kk r u t T'.heap (locs ++ L) e1.symm (by rw [← e2]; exact X'.warmed.alike) hp hb k1 k2 k3 T' rfl X'
    exact ⟨t2, st t2 a1, b1⟩
  · obtain ⟨k1, k2, k3⟩ := vx_keep h0 e1 hS hAX hf hL hF
    obtain ⟨t2, a1, b1⟩ := kx E ce q u t T'.heap (locs ++ L) e1.symm (by rw [← e2]; exact X'.warmed.alike) hp hb k1 k2 k3 (by rw [e1]; exact hce) hcv hcl T' rfl X'
    exact ⟨t2, st.trans a1, b1⟩
theorem vx_callv {S SX : Type} {post : S → Prop} {px : SX → Prop} {B : S → State → Prop} {BX : String → SX → State → Prop} {AX : Nat → Prop} (hr : vx_Run p l e R s m args below meth c H locs cells slots mc ms (F0 m pc ls st0) rest (va_Qv post B A1 a) (vx_X px BX AX) free) (hS : va_S A0 H0 H locs) (hA : ∀ q, q < H.size → A1 q → A0 q) (hf : ∀ q, free q → A0 q) (hAX : ∀ q, q < H.size → AX q → A0 q)
    (kx : ∀ (E : String) (ce : Cell) (q9 : Addr) (u : SX) (t : State) (H1 : Heap) (locs1 : List Loc), t.heap = H1 → s.vm.Alike t.vm → px u → BX E u t → H.size ≤ H1.size → (∀ q : Nat, q < H.size → ¬ AX q → H1[q]? = H[q]?) → va_S A0 H0 H1 locs1 → H1[q9]? = some ce → ce.vm = .none → s.vm.findClass E = some ce.cls → vx_W p l e R s m args below meth c H1 locs1 (cells + mc) (slots + ms) Q (F0 m pc ls rest) q9)
    (kk : ∀ (u : S) (t : State) (H1 : Heap) (locs1 : List Loc), t.heap = H1 → s.vm.Alike t.vm → post u → B u t → H.size ≤ H1.size → (∀ q : Nat, q < H.size → ¬ A1 q → H1[q]? = H[q]?) → va_S A0 H0 H1 locs1 → W p l e R s m args below meth c H1 locs1 (cells + mc) (slots + ms) Q (F0 m (pc + 3) ls (rest))) : W p l e R s m args below meth c H locs cells slots Q (F0 m pc ls st0) := by
  intro T hT X
  rcases hr T hT X with ⟨v, st₀, t, T', L, h0, X', hL, e1, e2, ⟨⟨u, hv, hp, hb⟩, hF⟩, st⟩ | ⟨q, st₀, t, T', L, E, ce, h0, X', hL, e1, e2, ⟨u, hp, hb, hF⟩, hce, hcv, hcl, st⟩
  · cases hv
    obtain ⟨k1, k2, k3⟩ := vx_keep h0 e1 hS hA hf hL hF
    obtain ⟨t2, a1, b1⟩ := kk u t T'.heap (locs ++ L) e1.symm (by rw [← e2]; exact X'.warmed.alike) hp hb k1 k2 k3 T' rfl X'
    exact ⟨t2, st t2 a1, b1⟩
  · obtain ⟨k1, k2, k3⟩ := vx_keep h0 e1 hS hAX hf hL hF
    obtain ⟨t2, a1, b1⟩ := kx E ce q u t T'.heap (locs ++ L) e1.symm (by rw [← e2]; exact X'.warmed.alike) hp hb k1 k2 k3 (by rw [e1]; exact hce) hcv hcl T' rfl X'
    exact ⟨t2, st.trans a1, b1⟩
/-- caught by the row x of this method's table; the rows ahead don't take it -/
theorem vx_catch {own name : String} {E : String} {ce : Cell} {q : Addr} (hown : s.vm.findClass own = some m.cls) (pre : List ExceptionTableEntry) (x : ExceptionTableEntry) (suf : List ExceptionTableEntry) (hsplit : c.exceptionTable.toList = pre ++ x :: suf)
    (hpass : ∀ z ∈ pre, covers z pc = false ∨ (z.catchType ≠ 0 ∧ ∃ nm : String, (Cond.classLink own z.catchType nm).before args s = true ∧ va_Nc E nm s)) (hx : covers x pc = true) (h0 : x.catchType ≠ 0)
    (hlink : (Cond.classLink own x.catchType name).before args s = true) (hcast : (Cond.castable E name).before args s = true) (hcell : H[q]? = some ce) (hv : ce.vm = .none) (hcl : s.vm.findClass E = some ce.cls)
    (kk : W p l e R s m args below meth c H locs cells slots Q (F0 m x.handlerPc ls [.ref q])) : vx_W p l e R s m args below meth c H locs cells slots Q (F0 m pc ls rest) q := by
  intro T hT X
  have hpl : e.platform.magicAccessors = ({} : Platform).magicAccessors := by rw [X.admits.platform]
  obtain ⟨c3, c4, hc3, hc4, hasg⟩ := Cond.castable_spec hcast
  cases Option.some.inj (hc3.symm.trans hcl)
  obtain ⟨c5, hc5, hcl5⟩ := Cond.classLink_spec hown hlink e.platform hpl
  cases Option.some.inj (hc4.symm.trans hc5)
  obtain ⟨vm', X', st⟩ := X.thenCaughtThrough q (g := F0 m pc ls rest) rfl (Steps.refl _) (by rw [hT]; exact hcell) (by rw [hv]; rfl) (by obtain ⟨k9, h9, -⟩ := Vm.findClass_spec hcl; exact ⟨k9, h9⟩) pre x suf hsplit
    (fun z hz => by
      rcases hpass z hz with h | ⟨hz0, nm, hl1, hn1⟩
      · exact Or.inl h
      · obtain ⟨c6, hc6, hcl6⟩ := Cond.classLink_spec hown hl1 e.platform hpl
        obtain ⟨a8, b8, h1, h2, h3⟩ := hn1
        cases Option.some.inj (h1.symm.trans hcl)
        cases Option.some.inj (h2.symm.trans hc6)
        exact Or.inr ⟨hz0, _, hcl6, h3⟩) hx (Or.inr ⟨h0, c4, hcl5, hasg⟩)
  obtain ⟨t, a1, b1⟩ := kk (T.setVm vm') hT X'
  exact ⟨t, st.trans a1, b1⟩
end Rows
section Ends
variable {p : Program} {l : Launch} {e : Env} {R : Room} {s : State} {m : MethodId} {args : Array Value} {below : List Frame} {meth : Method} {c : Code} {H : Heap} {locs : List Loc} {cells slots : Nat} {Q : State → Prop}
variable {mc ms : Nat} {free : Addr → Prop} {A0 A1 : Nat → Prop} {H0 : Heap} {a : Array Value} {ls : Array Slot} {st0 rest : List Value}
variable {Qc : Array Value → State → Outcome → State → Prop} {XC : String → State → State → Prop}
/-- what a body that may throw owes at its end -/
def vx_MQ (below : List Frame) (Qc : Array Value → State → Outcome → State → Prop) (XC : String → State → State → Prop) (a : Array Value) (s : State) (mc ms : Nat) (free : Addr → Prop) : State → Prop := fun t =>
  ∃ o, t.status = .running ∧ Ended t below o ∧ vx_Q Qc XC mc ms free a s o t
theorem vx_ret {g : JFrame} {mc ms : Nat} (k : W p l e R s m args below meth c H locs cells slots (MQ below Qc args s mc ms free) g) : W p l e R s m args below meth c H locs cells slots (vx_MQ below Qc XC args s mc ms free) g := by
  intro T hT X
  obtain ⟨t, a1, o, b1, b2, b3, b4⟩ := k T hT X
  exact ⟨t, a1, o, b1, b2, Or.inl ⟨b3, b4⟩⟩
/-- not caught here: it goes on to the caller -/
theorem vx_widen {g : JFrame} {q : Addr} {k n : Nat} (h1 : cells ≤ k) (h2 : slots ≤ n) (kk : vx_W p l e R s m args below meth c H locs k n Q g q) : vx_W p l e R s m args below meth c H locs cells slots Q g q := fun T hT X => kk T hT (stand_widen X h1 h2)
theorem vx_out {pc : Nat} {E : String} {ce : Cell} {q : Addr} {mc ms : Nat} (hout : ∀ x ∈ c.exceptionTable.toList, covers x pc = false) (hlocks : meth.locks = false) (hcell : H[q]? = some ce) (hv : ce.vm = .none) (hcl : s.vm.findClass E = some ce.cls)
    (hx : ∀ t : State, t.heap = H → s.vm.Alike t.vm → XC E s t) (hf : ∀ z ∈ locs, free z.base) (hc : cells ≤ mc) (hs : slots ≤ ms) :
    vx_W p l e R s m args below meth c H locs cells slots (vx_MQ below Qc XC args s mc ms free) (F0 m pc ls rest) q := by
  intro T hT X
  obtain ⟨st1, hrun, hend, hW, hsm⟩ := X.leaveThrown q (g := F0 m pc ls rest) rfl rfl rfl hout hlocks
  have hcell9 : (T.setFrames (.throwing q :: below)).heap[q]? = some ce := by
    show T.heap[q]? = some ce
    rw [hT]; exact hcell
  exact ⟨_, st1, .threw q, hrun, hend, Or.inr ⟨q, rfl, E, ce, locs, hx _ hT hW.alike, hcell9, hv, hcl, hW, hsm.mono hc hs, hf⟩⟩
theorem vx_frame {U : State} {k n : Nat} (h : s.sameButNew ({ U with vm := s.vm } : State) locs k n) : s.heap.size ≤ U.heap.size ∧ ∀ q : Nat, q < s.heap.size → (∀ z ∈ locs, z.base ≠ q) → U.heap[q]? = s.heap[q]? := by
  obtain ⟨-, h2, -, -, -, h6⟩ := h
  refine ⟨h2, fun q hq hz => ?_⟩
  obtain ⟨c9, e1, e2, e3, e4⟩ := h6 q _ (Array.getElem?_eq_getElem hq)
  have hs : c9.slots = (s.heap[q]).slots := Array.ext_getElem? fun i => e4 i fun hm => hz _ hm rfl
  have h9 : c9 = s.heap[q] := by
    rw [hs] at e2
    exact e2
  have e5 : U.heap[q]? = some c9 := e1
  rw [e5, h9, Array.getElem?_eq_getElem hq]
/-- the words of a throw but the four that speak of the heap -/
def vx_no (w : Cond) : Bool := decide (w ≠ .isRef (.static Bundle.tN "UNASSIGNED_STACK" Bundle.steD)) && decide (w ≠ .isRef (.static Bundle.tN "SUPPRESSED_SENTINEL" Bundle.listD)) && decide (w ≠ .laysStatic Bundle.tN "UNASSIGNED_STACK" Bundle.steD) && decide (w ≠ .laysStatic Bundle.tN "SUPPRESSED_SENTINEL" Bundle.listD)
def vx_at0 (own : String) (ic : Nat) (X : String) (names : List String) : List Cond := (Bundle.ownAtoms0 own ic X names).filter vx_no
def vx_atS (own : String) (ic : Nat) (X : String) (names : List String) : List Cond := (Bundle.ownAtoms own ic X names).filter vx_no
/-- a word that the tables alone decide, or a good one -/
def vx_ot (w : Cond) : Bool := w.onTables || goodWord w
theorem vx_ot_at {args a' : Array Value} {s U : State} {w : Cond} (hW : s.WarmedH U.vm) (hvm : s.vm = U.vm) (hg : vx_ot w = true) (h : w.before args s = true) : w.before a' U = true := by
  simp only [vx_ot, Bool.or_eq_true] at hg
  rcases hg with hg | hg
  · exact va_tabs hg hvm h
  · exact word_at hW (good_of_word hg) h
/-- a list's words: the good ones out of the method's own list, the others by premises of their own -/
theorem vx_hat {args : Array Value} {s : State} {L B : List Cond} (h1 : ∀ w ∈ L.filter goodWord, w.before args s = true) (h2 : ∀ w ∈ L.filter (fun w => !goodWord w), w ∈ B) (h3 : ∀ w ∈ B, w.before args s = true) : ∀ w ∈ L, w.before args s = true := by
  intro w hw
  by_cases g : goodWord w = true
  · exact h1 w (List.mem_filter.mpr ⟨hw, g⟩)
  · refine h3 w (h2 w (List.mem_filter.mpr ⟨hw, ?_⟩))
    show (!goodWord w) = true
    cases hgw : goodWord w
    · rfl
    · exact absurd hgw g
theorem vx_c {args : Array Value} {s : State} {w : Cond} {B : List Cond} (h : w.before args s = true) (t : ∀ w ∈ B, w.before args s = true) : ∀ w' ∈ w :: B, w'.before args s = true := fun w' h' => (List.mem_cons.mp h').elim (fun e => by rw [e]; exact h) (t w')
theorem vx_n {args : Array Value} {s : State} : ∀ w ∈ ([] : List Cond), w.before args s = true := fun _ h => nomatch h
theorem vx_own {args : Array Value} {s : State} {L : List Cond} (h1 : ∀ w ∈ L.filter vx_no, w.before args s = true)
    (hU : (Cond.isRef (.static Bundle.tN "UNASSIGNED_STACK" Bundle.steD)).before args s = true) (hN : (Cond.isRef (.static Bundle.tN "SUPPRESSED_SENTINEL" Bundle.listD)).before args s = true)
    (lU : (Cond.laysStatic Bundle.tN "UNASSIGNED_STACK" Bundle.steD).before args s = true) (lN : (Cond.laysStatic Bundle.tN "SUPPRESSED_SENTINEL" Bundle.listD).before args s = true) : ∀ w ∈ L, w.before args s = true := by
  intro w hw
  by_cases e1 : w = .isRef (.static Bundle.tN "UNASSIGNED_STACK" Bundle.steD)
  · rw [e1]; exact hU
  · by_cases e2 : w = .isRef (.static Bundle.tN "SUPPRESSED_SENTINEL" Bundle.listD)
    · rw [e2]; exact hN
    · by_cases e3 : w = .laysStatic Bundle.tN "UNASSIGNED_STACK" Bundle.steD
      · rw [e3]; exact lU
      · by_cases e4 : w = .laysStatic Bundle.tN "SUPPRESSED_SENTINEL" Bundle.listD
        · rw [e4]; exact lN
        · exact h1 w (List.mem_filter.mpr ⟨hw, by unfold vx_no; rw [decide_eq_true e1, decide_eq_true e2, decide_eq_true e3, decide_eq_true e4]; rfl⟩)
/-- where a static field lies, its class's statics cell in H -/
def vx_L (C n d : String) (A : Nat → Prop) (U : State) (H : Heap) : Prop := ∃ (c : ClassId) (k : Class) (i : Nat) (f : Field) (a : Nat) (cell : Cell), U.vm.findClass C = some c ∧ U.fieldFound? C n d = some (c, k, i, f) ∧ f.isStatic = true ∧ k.statics = some a ∧ H[a]? = some cell ∧ cell.vm.isStatics = true ∧ cell.cls = c ∧ f.slot < cell.slots.size ∧ k.staticTypes[f.slot]? = some f.type ∧ ¬ A a
theorem vx_L.moved {C n d : String} {A : Nat → Prop} {u U : State} {H : Heap} (hvm : u.vm.Alike U.vm) (h : vx_L C n d A u H) : vx_L C n d A U H := by
  obtain ⟨c, k, i, f, a, cell, h1, h2, h3, h4, h5, h6, h7, h8, h9, h10⟩ := h
  obtain ⟨k', hi', he⟩ := State.fieldFound?_setVm hvm h2
  exact ⟨c, k', i, f, a, cell, by rw [hvm.findClass]; exact h1, hi', h3, by rw [he]; exact h4, h5, h6, h7, h8, by rw [he]; exact h9, h10⟩
theorem vx_L.kept {C n d : String} {A : Nat → Prop} {U : State} {H H1 : Heap} (h : vx_L C n d A U H) (hq : ∀ a : Nat, a < H.size → ¬ A a → H1[a]? = H[a]?) : vx_L C n d A U H1 := by
  obtain ⟨c, k, i, f, a, cell, h1, h2, h3, h4, h5, h6, h7, h8, h9, h10⟩ := h
  exact ⟨c, k, i, f, a, cell, h1, h2, h3, h4, by rw [hq a (Array.getElem?_eq_some_iff.mp h5).1 h10]; exact h5, h6, h7, h8, h9, h10⟩
theorem vx_L.narrow {C n d : String} {A B : Nat → Prop} {U : State} {H : Heap} (h : vx_L C n d A U H) (hAB : ∀ q, B q → A q) : vx_L C n d B U H := by
  obtain ⟨c, k, i, f, a, cell, h1, h2, h3, h4, h5, h6, h7, h8, h9, h10⟩ := h
  exact ⟨c, k, i, f, a, cell, h1, h2, h3, h4, h5, h6, h7, h8, h9, fun z => h10 (hAB _ z)⟩
theorem vx_L.word {C n d : String} {A : Nat → Prop} {s : State} {args : Array Value} (h : vx_L C n d A s s.heap) : (Cond.laysStatic C n d).before args s = true := by
  obtain ⟨c, k, i, f, a, cell, h1, h2, h3, h4, h5, h6, h7, h8, h9, -⟩ := h
  show (Cond.laysStatic C n d).holds args s none s [] = true
  exact Cond.laysStatic_of h1 h2 h3 h4 h5 h6 h7 h8 h9
/-- .. and what it holds: null or some reference -/
def vx_Zq (C n d : String) (A : Nat → Prop) (U : State) (H : Heap) : Prop := va_Zq C n d A U H ∧ vx_L C n d A U H
theorem vx_Zq.moved {C n d : String} {A : Nat → Prop} {u U : State} {H : Heap} (hvm : u.vm.Alike U.vm) (h : vx_Zq C n d A u H) : vx_Zq C n d A U H := ⟨va_Zq.moved hvm h.1, vx_L.moved hvm h.2⟩
theorem vx_Zq.kept {C n d : String} {A : Nat → Prop} {U : State} {H H1 : Heap} (h : vx_Zq C n d A U H) (hq : ∀ a : Nat, a < H.size → ¬ A a → H1[a]? = H[a]?) : vx_Zq C n d A U H1 := ⟨va_Zq.kept h.1 hq, vx_L.kept h.2 hq⟩
theorem vx_Zq.narrow {C n d : String} {A B : Nat → Prop} {U : State} {H : Heap} (h : vx_Zq C n d A U H) (hAB : ∀ q, B q → A q) : vx_Zq C n d B U H := ⟨va_Zq.narrow h.1 hAB, vx_L.narrow h.2 hAB⟩
theorem vx_Zqof {args : Array Value} {s : State} {C n d : String} {A : Nat → Prop} (hl : (Cond.laysStatic C n d).before args s = true) (hini : (Cond.initialized C).before args s = true) (h : (Cond.isRef (.static C n d)).before args s = true) (hA : ∀ a : Nat, a < s.heap.size → ¬ A a) : vx_Zq C n d A s s.heap := by
  refine ⟨va_Zqof hl hini h hA, ?_⟩
  obtain ⟨c, k, i, f, a, cell, h1, h2, h3, h4, h5, h6, h7, h8, h9⟩ := Cond.laysStatic_spec hl
  exact ⟨c, k, i, f, a, cell, h1, h2, h3, h4, h5, h6, h7, h8, h9, hA a (Array.getElem?_eq_some_iff.mp h5).1⟩
theorem vx_isRef {C n d : String} {v : Value} {A : Nat → Prop} {s : State} {args : Array Value} (h : va_Z C n d v A s s.heap) (hv : v.isRef = true) : (Cond.isRef (.static C n d)).before args s = true := by
  obtain ⟨cf, kf, fi, f, a, cell, h1, h2, h3, h4, h5, h6, h7, -⟩ := h
  have he : (Term.static C n d).eval args s none [] s = some v := by
    simp [Term.eval, State.fieldNamed?, h1, h2, h4, h5, h6, h7]
  simp only [Cond.before, Cond.holds, Cond.value, he]
  cases v <;> simp_all [Value.isRef]
theorem vx_isRefq {C n d : String} {A : Nat → Prop} {s : State} {args : Array Value} (h : va_Zq C n d A s s.heap) : (Cond.isRef (.static C n d)).before args s = true := by
  rcases h with h | ⟨t, h⟩
  · exact vx_isRef h rfl
  · exact vx_isRef h rfl
/-- the same frame, seen from here: as if the method were called anew in this heap -/
theorem vx_rebase {T : State} (X : Stand p l e R s m args below meth c T locs cells slots) {R' : Room} (hf : R'.frames ≤ R.frames) (hl : R'.locals ≤ R.locals) (hc : cells + R'.cells ≤ R.cells) (hs : slots + R'.slots ≤ R.slots) :
    Stand p l e R' ((T.setVm s.vm).setFrames (.invoking m args :: below)) m args below meth c T [] 0 0 := by
  have htop : (T.setVm s.vm).topJava?.isSome := X.here.top
  have hF : ((T.setVm s.vm).setFrames (.invoking m args :: below)).frames = .invoking m args :: below := State.frames_setFrames _ (State.cur_lt_of_top htop)
  obtain ⟨g₀, hg0⟩ := Option.isSome_iff_exists.mp htop
  obtain ⟨r, hr⟩ := State.topJava?_eq_some.mp hg0
  have hl9 : e.platform.stackLimits (T.setVm s.vm).me = e.platform.stackLimits s.me := X.limits
  have hb9 : (T.setVm s.vm).me.stackBytes = s.me.stackBytes := X.bytes
  refine ⟨X.admits, X.cas, X.clock, hF, ?_, X.hears, X.method, X.code, X.here, X.tail, X.warmed, ?_, ?_, ?_⟩
  · have h := X.room
    have hU : ((T.setVm s.vm).setFrames (.invoking m args :: below)).localsInUse = s.localsInUse := by
      rw [State.localsInUse_invoking hF (meth := meth) (c := c) X.method X.code, State.localsInUse_invoking X.frames X.method X.code]
    simp only [State.hasRoom, Bool.and_eq_true, decide_eq_true_eq] at h ⊢
    obtain ⟨⟨⟨⟨h1, h2, h3, h4, h5, h6⟩, h7⟩, h8⟩, h9⟩ := h
    rw [X.frames, List.length_cons] at h2 h3
    have q1 := X.heapSize
    have q2 := X.used
    simp only [hF, hU, List.length_cons, State.stackLimits_setFrames, State.stackBytes_setFrames, hl9, hb9]
    refine ⟨⟨⟨⟨by omega, by omega, by omega, by omega, by omega, h6⟩, ?_⟩, ?_⟩, X.book⟩
    · show T.heap.size + R'.cells ≤ e.platform.maxCells
      omega
    · show T.slotsUsed + R'.slots ≤ e.platform.maxSlots
      omega
  · rw [State.stackLimits_setFrames]; rfl
  · rw [State.stackBytes_setFrames]; rfl
  · refine ⟨?_, Nat.le_refl _, Nat.le_refl _, ?_, ?_, fun a c9 h9 => ⟨c9, h9, rfl, rfl, fun _ _ => rfl⟩⟩
    · obtain ⟨t, ht, -⟩ := State.frames_cons hr
      show T.setVm s.vm = { ((T.setVm s.vm).setFrames (.invoking m args :: below)).setFrames (T.setVm s.vm).frames with heap := T.heap, slotsUsed := T.slotsUsed }
      rw [State.setFrames_setFrames, State.setFrames_self ht]
      rfl
    · show T.slotsUsed = T.slotsUsed + ((T.heap.toList.drop T.heap.size).map (·.slots.size)).sum
      rw [List.drop_eq_nil_of_le (Nat.le_of_eq Array.length_toList)]
      rfl
    · show ((T.heap.toList.drop T.heap.size).map (·.slots.size)).sum ≤ 0
      rw [List.drop_eq_nil_of_le (Nat.le_of_eq Array.length_toList)]
      exact Nat.le_refl _
/-- 'throw new E()': new; dup; invokespecial; athrow -/
theorem vx_throw0 {cc : ByteArray} {pc : Nat} (hexec : p.tables.exec = Jvm.exec) (hb : c.code = cc) (hl : l.stackTraces = false) {own cls : String} {names : List String} {ik ic mc ms : Nat} {A : Nat → Prop}
    (hown : s.vm.findClass own = some m.cls) (hcls : Bundle.fit cls = true) (hnames : ∀ n ∈ names, Bundle.fit n = true)
    (hk : (Cond.classLink own ik cls).before args s = true) (hini : (Cond.initialized cls).before args s = true) (hat : ∀ w ∈ vx_at0 own ic cls names, w.before args s = true)
    (hgood : ∀ w ∈ Cond.classLink own ik cls :: Cond.initialized cls :: vx_at0 own ic cls names, vx_ot w = true)
    (hU : vx_Zq Bundle.tN "UNASSIGNED_STACK" Bundle.steD A s s.heap) (hN : vx_Zq Bundle.tN "SUPPRESSED_SENTINEL" Bundle.listD A s s.heap) (hS : va_S A s.heap H locs) (hsize : ls.size = c.maxLocals)
    (d0 : decode cc pc = .ok (.new ik, 3)) (d3 : decode cc (pc + 3) = .ok (.dup, 1)) (d4 : decode cc (pc + 4) = .ok (.invokespecial ic, 3)) (d7 : decode cc (pc + 7) = .ok (.athrow, 1))
    (hout : ∀ x ∈ c.exceptionTable.toList, covers x (pc + 7) = false)
    (hRframes : names.length + 3 < R.frames) (hRlocals : (rest.map fun v => v.category).sum + (13 * (names.length + 1) + 42) ≤ R.locals) (hRcells : cells + 1 ≤ R.cells) (hRslots : slots + 6 ≤ R.slots) (hlocks : meth.locks = false)
    (hx : ∀ t : State, s.vm.Alike t.vm → H.size ≤ t.heap.size → (∀ q : Nat, q < H.size → t.heap[q]? = H[q]?) → XC cls s t)
    (hf : ∀ z ∈ locs, free z.base) (hc : cells + 1 ≤ mc) (hs : slots + 6 ≤ ms) :
    W p l e R s m args below meth c H locs cells slots (vx_MQ below Qc XC args s mc ms free) (F0 m pc ls rest) := by
  intro T hT X
  have htr : e.platform.stackTraces = false := (show e.platform.stackTraces = l.stackTraces by rw [X.admits.platform]).trans hl
  have Y := vx_rebase X (R' := { frames := R.frames, locals := R.locals, cells := 1, slots := 6 }) (Nat.le_refl _) (Nat.le_refl _) hRcells hRslots
  obtain ⟨s', hA⟩ : ∃ z, z = (T.setVm s.vm).setFrames (.invoking m args :: below) := ⟨_, rfl⟩
  rw [← hA] at Y
  have hvm : s'.vm = s.vm := by rw [hA]; rfl
  have hhp : s'.heap = H := by rw [hA]; exact hT
  have hW0 : s.WarmedH s'.vm := by rw [hvm]; exact State.WarmedH.refl s
  have hat' : ∀ w ∈ vx_at0 own ic cls names, w.before args s' = true := fun w hw => vx_ot_at hW0 hvm.symm (hgood w (List.mem_cons_of_mem _ (List.mem_cons_of_mem _ hw))) (hat w hw)
  have hk' : (Cond.classLink own ik cls).before args s' = true := vx_ot_at hW0 hvm.symm (hgood _ List.mem_cons_self) hk
  have hini' : (Cond.initialized cls).before args s' = true := vx_ot_at hW0 hvm.symm (hgood _ (List.mem_cons_of_mem _ List.mem_cons_self)) hini
  have hU' : vx_Zq Bundle.tN "UNASSIGNED_STACK" Bundle.steD A s' s'.heap := by rw [hhp]; exact vx_Zq.moved hW0.alike (hU.kept hS.2.1)
  have hN' : vx_Zq Bundle.tN "SUPPRESSED_SENTINEL" Bundle.listD A s' s'.heap := by rw [hhp]; exact vx_Zq.moved hW0.alike (hN.kept hS.2.1)
  have h : ∀ w ∈ Bundle.ownAtoms0 own ic cls names, w.before args s' = true := vx_own hat' (vx_isRefq hU'.1) (vx_isRefq hN'.1) hU'.2.word hN'.2.word
  have hown' : s'.vm.findClass own = some m.cls := by rw [hvm]; exact hown
  have hins : (Cond.instantiable cls 6).before args s' = true := h _ (by simp [Bundle.ownAtoms0])
  obtain ⟨vm₁, cX, kX, hfX, hkX, -, -, X₁, st1⟩ := Y.newCold hexec (own := own) (C := cls) (index := ik) (n := 6) hown' hk' hins hini'
    (g := F0 m pc ls rest) rfl (by rw [hb]; exact d0) (Nat.le_refl _) (Nat.le_refl _)
  generalize hT1 : (T.setVm vm₁).pushCell { cls := cX, slots := kX.instanceTypes.map defaultValue, vm := .none } = T1 at X₁ st1
  have hcat : (Value.ref T.heap.size).category = 1 := rfl
  have hcellA : T1.heap[T.heap.size]? = some (freshCell cX kX) := by rw [← hT1]; exact State.heap_pushCell_size _ _
  have d3' : decode c.code (pc + 3) = .ok (.dup, 1) := by rw [hb]; exact d3
  obtain ⟨U, hsteps, hrun, hend, hW, hsame, ce, hce, hO⟩ := X₁.ctorThrow0 hexec htr (own := own) (cls := cls) (names := names) (ic := ic) hown' hcls hnames h (fun x hx => nomatch hx) hfX hkX hcellA (by rw [hhp, hT]; exact Nat.le_refl _)
    (g := { method := m, pc := pc + 4, locals := ls, stack := .ref T.heap.size :: .ref T.heap.size :: rest, locked := none }) rfl hsize rfl rfl (rest := rest) rfl
    (by rw [hb]; exact d4) (by rw [hb]; exact d7) hout hRframes (by simp only [List.map_cons, List.sum_cons, hcat]; omega) hlocks
  obtain ⟨f1, f2⟩ := vx_frame hsame
  rw [hhp] at f1 f2
  have hWs : s.WarmedH U.vm := State.WarmedH.trans hW0 hW
  have hcl : s.vm.findClass cls = some ce.cls := by
    have h9 := hO.cls
    rw [hvm] at h9
    exact h9
  have hall : s.sameButNew ({ U with vm := s.vm } : State) locs mc ms := by
    subst hA
    obtain ⟨e1, e2⟩ := hsame
    rw [State.setFrames_setFrames] at e1
    have h2 : (T.setVm s.vm).sameButNew ({ U with vm := s.vm } : State) [] (0 + 1) (0 + 6) := ⟨e1, e2⟩
    have h3 := X.same.trans h2
    rw [List.append_nil] at h3
    exact h3.mono hc hs
  refine ⟨U, ?_, .threw T.heap.size, hrun, hend, Or.inr ⟨T.heap.size, rfl, cls, ce, locs, hx U hWs.alike f1 (fun q hq => f2 q hq (fun z hz => nomatch hz)), hce, hO.vm, hcl, hWs, hall, hf⟩⟩
  refine st1 _ ?_
  show Steps p.tables e below (T1.setTop { method := m, pc := pc + 3, locals := ls, stack := .ref T.heap.size :: rest, locked := none }) _
  jvm_step X₁.here [X₁.here.top, hexec, d3', Value.category]
  exact hsteps
/-- 'throw new E("text")': new; dup; ldc; invokespecial; athrow -/
theorem vx_throwS {cc : ByteArray} {pc : Nat} (hexec : p.tables.exec = Jvm.exec) (hb : c.code = cc) (hl : l.stackTraces = false) {own cls text : String} {names : List String} {ik is ic mc ms sa : Nat} {A : Nat → Prop}
    (hown : s.vm.findClass own = some m.cls) (hcls : Bundle.fit cls = true) (hnames : ∀ n ∈ names, Bundle.fit n = true)
    (hk : (Cond.classLink own ik cls).before args s = true) (hini : (Cond.initialized cls).before args s = true) (hstr : vk_R own is text sa s) (hat : ∀ w ∈ vx_atS own ic cls names, w.before args s = true)
    (hgood : ∀ w ∈ Cond.classLink own ik cls :: Cond.initialized cls :: vx_atS own ic cls names, vx_ot w = true)
    (hU : vx_Zq Bundle.tN "UNASSIGNED_STACK" Bundle.steD A s s.heap) (hN : vx_Zq Bundle.tN "SUPPRESSED_SENTINEL" Bundle.listD A s s.heap) (hS : va_S A s.heap H locs) (hsize : ls.size = c.maxLocals)
    (d0 : decode cc pc = .ok (.new ik, 3)) (d3 : decode cc (pc + 3) = .ok (.dup, 1)) (d4 : decode cc (pc + 4) = .ok (.ldc is, 2)) (d6 : decode cc (pc + 6) = .ok (.invokespecial ic, 3)) (d9 : decode cc (pc + 9) = .ok (.athrow, 1))
    (hout : ∀ x ∈ c.exceptionTable.toList, covers x (pc + 9) = false)
    (hRframes : names.length + 3 < R.frames) (hRlocals : (rest.map fun v => v.category).sum + (13 * (names.length + 1) + 43) ≤ R.locals) (hRcells : cells + 1 ≤ R.cells) (hRslots : slots + 6 ≤ R.slots) (hlocks : meth.locks = false)
    (hx : ∀ t : State, s.vm.Alike t.vm → H.size ≤ t.heap.size → (∀ q : Nat, q < H.size → t.heap[q]? = H[q]?) → XC cls s t)
    (hf : ∀ z ∈ locs, free z.base) (hc : cells + 1 ≤ mc) (hs : slots + 6 ≤ ms) :
    W p l e R s m args below meth c H locs cells slots (vx_MQ below Qc XC args s mc ms free) (F0 m pc ls rest) := by
  intro T hT X
  have htr : e.platform.stackTraces = false := (show e.platform.stackTraces = l.stackTraces by rw [X.admits.platform]).trans hl
  have Y := vx_rebase X (R' := { frames := R.frames, locals := R.locals, cells := 1, slots := 6 }) (Nat.le_refl _) (Nat.le_refl _) hRcells hRslots
  obtain ⟨s', hA⟩ : ∃ z, z = (T.setVm s.vm).setFrames (.invoking m args :: below) := ⟨_, rfl⟩
  rw [← hA] at Y
  have hvm : s'.vm = s.vm := by rw [hA]; rfl
  have hhp : s'.heap = H := by rw [hA]; exact hT
  have hW0 : s.WarmedH s'.vm := by rw [hvm]; exact State.WarmedH.refl s
  have hat' : ∀ w ∈ vx_atS own ic cls names, w.before args s' = true := fun w hw => vx_ot_at hW0 hvm.symm (hgood w (List.mem_cons_of_mem _ (List.mem_cons_of_mem _ hw))) (hat w hw)
  have hk' : (Cond.classLink own ik cls).before args s' = true := vx_ot_at hW0 hvm.symm (hgood _ List.mem_cons_self) hk
  have hini' : (Cond.initialized cls).before args s' = true := vx_ot_at hW0 hvm.symm (hgood _ (List.mem_cons_of_mem _ List.mem_cons_self)) hini
  have hU' : vx_Zq Bundle.tN "UNASSIGNED_STACK" Bundle.steD A s' s'.heap := by rw [hhp]; exact vx_Zq.moved hW0.alike (hU.kept hS.2.1)
  have hN' : vx_Zq Bundle.tN "SUPPRESSED_SENTINEL" Bundle.listD A s' s'.heap := by rw [hhp]; exact vx_Zq.moved hW0.alike (hN.kept hS.2.1)
  have h : ∀ w ∈ Bundle.ownAtoms own ic cls names, w.before args s' = true := vx_own hat' (vx_isRefq hU'.1) (vx_isRefq hN'.1) hU'.2.word hN'.2.word
  have hown' : s'.vm.findClass own = some m.cls := by rw [hvm]; exact hown
  have hins : (Cond.instantiable cls 6).before args s' = true := h _ (by simp [Bundle.ownAtoms])
  obtain ⟨vm₁, cX, kX, hfX, hkX, -, -, X₁, st1⟩ := Y.newCold hexec (own := own) (C := cls) (index := ik) (n := 6) hown' hk' hins hini'
    (g := F0 m pc ls rest) rfl (by rw [hb]; exact d0) (Nat.le_refl _) (Nat.le_refl _)
  generalize hT1 : (T.setVm vm₁).pushCell { cls := cX, slots := kX.instanceTypes.map defaultValue, vm := .none } = T1 at X₁ st1
  have hcat : (Value.ref T.heap.size).category = 1 := rfl
  have hcellA : T1.heap[T.heap.size]? = some (freshCell cX kX) := by rw [← hT1]; exact State.heap_pushCell_size _ _
  have d3' : decode c.code (pc + 3) = .ok (.dup, 1) := by rw [hb]; exact d3
  have d4' : decode c.code (pc + 4) = .ok (.ldc is, 2) := by rw [hb]; exact d4
  have hstr' : vk_R own is text sa s' := vk_R.warm hW0 hstr
  obtain ⟨U, hsteps, hrun, hend, hW, hsame, ce, hce, hO⟩ := X₁.ctorThrowS hexec htr (own := own) (cls := cls) (names := names) (ic := ic) hown' hcls hnames h (fun x hx => nomatch hx) hfX hkX hcellA (by rw [hhp, hT]; exact Nat.le_refl _) (msg := .ref sa) rfl
    (g := { method := m, pc := pc + 6, locals := ls, stack := .ref sa :: .ref T.heap.size :: .ref T.heap.size :: rest, locked := none }) rfl hsize rfl rfl (rest := rest) rfl
    (by rw [hb]; exact d6) (by rw [hb]; exact d9) hout hRframes (by simp only [List.map_cons, List.sum_cons, hcat]; omega) hlocks
  obtain ⟨f1, f2⟩ := vx_frame hsame
  rw [hhp] at f1 f2
  have hWs : s.WarmedH U.vm := State.WarmedH.trans hW0 hW
  have hcl : s.vm.findClass cls = some ce.cls := by
    have h9 := hO.cls
    rw [hvm] at h9
    exact h9
  have hall : s.sameButNew ({ U with vm := s.vm } : State) locs mc ms := by
    subst hA
    obtain ⟨e1, e2⟩ := hsame
    rw [State.setFrames_setFrames] at e1
    have h2 : (T.setVm s.vm).sameButNew ({ U with vm := s.vm } : State) [] (0 + 1) (0 + 6) := ⟨e1, e2⟩
    have h3 := X.same.trans h2
    rw [List.append_nil] at h3
    exact h3.mono hc hs
  refine ⟨U, ?_, .threw T.heap.size, hrun, hend, Or.inr ⟨T.heap.size, rfl, cls, ce, locs, hx U hWs.alike f1 (fun q hq => f2 q hq (fun z hz => nomatch hz)), hce, hO.vm, hcl, hWs, hall, hf⟩⟩
  refine st1 _ ?_
  show Steps p.tables e below (T1.setTop { method := m, pc := pc + 3, locals := ls, stack := .ref T.heap.size :: rest, locked := none }) _
  jvm_step X₁.here [X₁.here.top, hexec, d3', Value.category]
  exact X₁.ldcString hexec (own := own) (text := text) (index := is) (a := sa) hown' hstr'.1 hstr'.2
    (g := { method := m, pc := pc + 4, locals := ls, stack := .ref T.heap.size :: .ref T.heap.size :: rest, locked := none }) rfl d4' _ hsteps
/-- 'throw new E("text")', the text by a wide index -/
theorem vx_throwSW {cc : ByteArray} {pc : Nat} (hexec : p.tables.exec = Jvm.exec) (hb : c.code = cc) (hl : l.stackTraces = false) {own cls text : String} {names : List String} {ik is ic mc ms sa : Nat} {A : Nat → Prop}
    (hown : s.vm.findClass own = some m.cls) (hcls : Bundle.fit cls = true) (hnames : ∀ n ∈ names, Bundle.fit n = true)
    (hk : (Cond.classLink own ik cls).before args s = true) (hini : (Cond.initialized cls).before args s = true) (hstr : vk_R own is text sa s) (hat : ∀ w ∈ vx_atS own ic cls names, w.before args s = true)
    (hgood : ∀ w ∈ Cond.classLink own ik cls :: Cond.initialized cls :: vx_atS own ic cls names, vx_ot w = true)
    (hU : vx_Zq Bundle.tN "UNASSIGNED_STACK" Bundle.steD A s s.heap) (hN : vx_Zq Bundle.tN "SUPPRESSED_SENTINEL" Bundle.listD A s s.heap) (hS : va_S A s.heap H locs) (hsize : ls.size = c.maxLocals)
    (d0 : decode cc pc = .ok (.new ik, 3)) (d3 : decode cc (pc + 3) = .ok (.dup, 1)) (d4 : decode cc (pc + 4) = .ok (.ldc_w is, 3)) (d7 : decode cc (pc + 7) = .ok (.invokespecial ic, 3)) (d10 : decode cc (pc + 10) = .ok (.athrow, 1))
    (hout : ∀ x ∈ c.exceptionTable.toList, covers x (pc + 10) = false)
    (hRframes : names.length + 3 < R.frames) (hRlocals : (rest.map fun v => v.category).sum + (13 * (names.length + 1) + 43) ≤ R.locals) (hRcells : cells + 1 ≤ R.cells) (hRslots : slots + 6 ≤ R.slots) (hlocks : meth.locks = false)
    (hx : ∀ t : State, s.vm.Alike t.vm → H.size ≤ t.heap.size → (∀ q : Nat, q < H.size → t.heap[q]? = H[q]?) → XC cls s t)
    (hf : ∀ z ∈ locs, free z.base) (hc : cells + 1 ≤ mc) (hs : slots + 6 ≤ ms) :
    W p l e R s m args below meth c H locs cells slots (vx_MQ below Qc XC args s mc ms free) (F0 m pc ls rest) := by
  intro T hT X
  have htr : e.platform.stackTraces = false := (show e.platform.stackTraces = l.stackTraces by rw [X.admits.platform]).trans hl
  have Y := vx_rebase X (R' := { frames := R.frames, locals := R.locals, cells := 1, slots := 6 }) (Nat.le_refl _) (Nat.le_refl _) hRcells hRslots
  obtain ⟨s', hA⟩ : ∃ z, z = (T.setVm s.vm).setFrames (.invoking m args :: below) := ⟨_, rfl⟩
  rw [← hA] at Y
  have hvm : s'.vm = s.vm := by rw [hA]; rfl
  have hhp : s'.heap = H := by rw [hA]; exact hT
  have hW0 : s.WarmedH s'.vm := by rw [hvm]; exact State.WarmedH.refl s
  have hat' : ∀ w ∈ vx_atS own ic cls names, w.before args s' = true := fun w hw => vx_ot_at hW0 hvm.symm (hgood w (List.mem_cons_of_mem _ (List.mem_cons_of_mem _ hw))) (hat w hw)
  have hk' : (Cond.classLink own ik cls).before args s' = true := vx_ot_at hW0 hvm.symm (hgood _ List.mem_cons_self) hk
  have hini' : (Cond.initialized cls).before args s' = true := vx_ot_at hW0 hvm.symm (hgood _ (List.mem_cons_of_mem _ List.mem_cons_self)) hini
  have hU' : vx_Zq Bundle.tN "UNASSIGNED_STACK" Bundle.steD A s' s'.heap := by rw [hhp]; exact vx_Zq.moved hW0.alike (hU.kept hS.2.1)
  have hN' : vx_Zq Bundle.tN "SUPPRESSED_SENTINEL" Bundle.listD A s' s'.heap := by rw [hhp]; exact vx_Zq.moved hW0.alike (hN.kept hS.2.1)
  have h : ∀ w ∈ Bundle.ownAtoms own ic cls names, w.before args s' = true := vx_own hat' (vx_isRefq hU'.1) (vx_isRefq hN'.1) hU'.2.word hN'.2.word
  have hown' : s'.vm.findClass own = some m.cls := by rw [hvm]; exact hown
  have hins : (Cond.instantiable cls 6).before args s' = true := h _ (by simp [Bundle.ownAtoms])
  obtain ⟨vm₁, cX, kX, hfX, hkX, -, -, X₁, st1⟩ := Y.newCold hexec (own := own) (C := cls) (index := ik) (n := 6) hown' hk' hins hini'
    (g := F0 m pc ls rest) rfl (by rw [hb]; exact d0) (Nat.le_refl _) (Nat.le_refl _)
  generalize hT1 : (T.setVm vm₁).pushCell { cls := cX, slots := kX.instanceTypes.map defaultValue, vm := .none } = T1 at X₁ st1
  have hcat : (Value.ref T.heap.size).category = 1 := rfl
  have hcellA : T1.heap[T.heap.size]? = some (freshCell cX kX) := by rw [← hT1]; exact State.heap_pushCell_size _ _
  have d3' : decode c.code (pc + 3) = .ok (.dup, 1) := by rw [hb]; exact d3
  have d4' : decode c.code (pc + 4) = .ok (.ldc_w is, 3) := by rw [hb]; exact d4
  have hstr' : vk_R own is text sa s' := vk_R.warm hW0 hstr
  obtain ⟨U, hsteps, hrun, hend, hW, hsame, ce, hce, hO⟩ := X₁.ctorThrowS hexec htr (own := own) (cls := cls) (names := names) (ic := ic) hown' hcls hnames h (fun x hx => nomatch hx) hfX hkX hcellA (by rw [hhp, hT]; exact Nat.le_refl _) (msg := .ref sa) rfl
    (g := { method := m, pc := pc + 7, locals := ls, stack := .ref sa :: .ref T.heap.size :: .ref T.heap.size :: rest, locked := none }) rfl hsize rfl rfl (rest := rest) rfl
    (by rw [hb]; exact d7) (by rw [hb]; exact d10) hout hRframes (by simp only [List.map_cons, List.sum_cons, hcat]; omega) hlocks
  obtain ⟨f1, f2⟩ := vx_frame hsame
  rw [hhp] at f1 f2
  have hWs : s.WarmedH U.vm := State.WarmedH.trans hW0 hW
  have hcl : s.vm.findClass cls = some ce.cls := by
    have h9 := hO.cls
    rw [hvm] at h9
    exact h9
  have hall : s.sameButNew ({ U with vm := s.vm } : State) locs mc ms := by
    subst hA
    obtain ⟨e1, e2⟩ := hsame
    rw [State.setFrames_setFrames] at e1
    have h2 : (T.setVm s.vm).sameButNew ({ U with vm := s.vm } : State) [] (0 + 1) (0 + 6) := ⟨e1, e2⟩
    have h3 := X.same.trans h2
    rw [List.append_nil] at h3
    exact h3.mono hc hs
  refine ⟨U, ?_, .threw T.heap.size, hrun, hend, Or.inr ⟨T.heap.size, rfl, cls, ce, locs, hx U hWs.alike f1 (fun q hq => f2 q hq (fun z hz => nomatch hz)), hce, hO.vm, hcl, hWs, hall, hf⟩⟩
  refine st1 _ ?_
  show Steps p.tables e below (T1.setTop { method := m, pc := pc + 3, locals := ls, stack := .ref T.heap.size :: rest, locked := none }) _
  jvm_step X₁.here [X₁.here.top, hexec, d3', Value.category]
  exact X₁.ldcStringW hexec (own := own) (text := text) (index := is) (a := sa) hown' hstr'.1 hstr'.2
    (g := { method := m, pc := pc + 4, locals := ls, stack := .ref T.heap.size :: .ref T.heap.size :: rest, locked := none }) rfl d4' _ hsteps
end Ends
section Bodies
variable {l : Launch}
theorem vx_ofW {y : MethodName} {ws ws' : List Cond} {rm : Room} {Pc : Array Value → State → Prop} {Qc : Array Value → State → Outcome → State → Prop} {XC : String → State → State → Prop} {mc ms : Nat} {free : Addr → Prop} {cc : ByteArray} {maxL : Nat} {ret : Option FieldType}
    (hy : plainName y.cls = true) (hw : ws = Cond.code y cc maxL ret :: ws')
    (body : ∀ p e s m args below meth c s₁, BodyLoose p l y (headSpec ws rm) cc maxL ret e s m args below meth c s₁ → c.maxLocals = maxL → (∀ x ∈ c.exceptionTable.toList, False) → Pc args s →
      W p l e (headSpec ws rm).room s m args below meth c s.heap [] 0 0 (vx_MQ below Qc XC args s mc ms free) (entryFrame m args maxL)) : vx_Met l y ws rm Pc Qc XC mc ms free := by
  refine MetFree.of_bodyS (code := cc) (maxLocals := maxL) (ret := ret) hy ?_ ?_
  · intro args s m h hn
    obtain ⟨meth, c, h1, h2, h3, h4, h5, h6, -, -⟩ := Cond.code_spec hn (atoms_spec (ws := ws) h _ (by rw [hw]; exact List.mem_cons_self))
    exact ⟨meth, c, h1, h2, h3, h4, h5, h6⟩
  · intro p e s m args below meth c s₁ B hml hP _
    have hh0 : s₁.heap = s.heap := by rw [B.state]; rfl
    have ht : ∀ x ∈ c.exceptionTable.toList, False := by
      obtain ⟨meth9, c9, h1, h2, -, -, -, -, h7, -⟩ := Cond.code_spec B.named (atoms_spec (ws := ws) B.pre _ (by rw [hw]; exact List.mem_cons_self))
      cases Option.some.inj (h1.symm.trans B.method)
      cases Option.some.inj (h2.symm.trans (Stand.of_body B).code)
      intro x hx
      rw [Array.isEmpty_iff.mp h7] at hx
      cases hx
    obtain ⟨t, a1, o, b1, b2, b3⟩ := body p e s m args below meth c s₁ B hml ht hP s₁ hh0 (Stand.of_body B)
    exact ⟨t, o, a1, b1, b2, b3⟩
/-- the table of a body with handlers -/
theorem vx_table {p : Program} {x y : MethodName} {S : Spec} {cc bytes : ByteArray} {maxL maxL' : Nat} {ret ret' : Option FieldType} {e : Env} {s s₁ : State} {m : MethodId} {args : Array Value} {below : List Frame} {meth : Method} {c : Code} {hh : List (Nat × Nat × Nat × Nat)}
    (B : BodyLoose p l y S cc maxL ret e s m args below meth c s₁) (h : (Cond.codeWith y bytes maxL' ret' hh).before args s = true) : c.exceptionTable.toList = tableOf hh := by
  obtain ⟨m9, meth9, c9, hn9, h1, h2, -, -, h6, -⟩ := Cond.codeWith_spec h
  cases Option.some.inj (hn9.symm.trans B.named)
  cases Option.some.inj (h1.symm.trans B.method)
  cases Option.some.inj (h2.symm.trans (Stand.of_body B).code)
  rw [← h6, table_eq]
end Bodies
end VXA
/-! ===== END ===== -/
/-! ===== BEGIN a static call of a method with an exception table ===== -/
section VXS
variable {p : Program} {l : Launch} {e : Env} {R : Room} {s : State} {m : MethodId} {args : Array Value} {below : List Frame} {meth : Method} {c : Code} {T : State} {H : Heap} {locs : List Loc} {cells slots : Nat}
abbrev vx_CSW (R : Room) (s : State) (args : Array Value) (own : String) (index : Nat) (y : MethodName) (bytes : ByteArray) (maxL : Nat) (ret : Option FieldType) (hh : List (Nat × Nat × Nat × Nat)) (ws : List Cond) (rm : Room) (mc ms n : Nat) : Prop :=
  (rm.cells = mc ∧ rm.slots = ms ∧ rm.frames + 1 ≤ R.frames ∧ 8 + (maxL + 11) + rm.locals ≤ R.locals ∧ (∀ w ∈ ws, ∀ (a' : Array Value) (U : State), s.WarmedH U.vm → w.before a' U = true) ∧ Cond.codeWith y bytes maxL ret hh ∈ ws) ∧
  (Cond.codeWith y bytes maxL ret hh).before args s = true ∧ (Cond.initialized y.cls).before args s = true ∧ (y.cls ≠ "java/lang/invoke/MethodHandle" ∧ y.cls ≠ "java/lang/invoke/VarHandle") ∧
  (∀ sig, parseMethodDescriptor y.desc = some sig → n = sig.parameters.length) ∧ (Cond.methodLink own index y).before args s = true ∧ (Cond.static y).before args s = true
theorem vx_cwSW {own : String} {index maxL mc ms : Nat} {y : MethodName} {bytes : ByteArray} {ret : Option FieldType} {hh : List (Nat × Nat × Nat × Nat)} {Ts ws ws' : List Cond} {rm : Room} (n : Nat) (ht : ∀ w ∈ Ts, w.before args s = true) (hT : GoodIn Ts (va_wsS own index y ws)) (hw : ws = Cond.codeWith y bytes maxL ret hh :: ws') (hrc : rm.cells = mc) (hrs : rm.slots = ms)
    (hd : y.cls ≠ "java/lang/invoke/MethodHandle" ∧ y.cls ≠ "java/lang/invoke/VarHandle" ∧ (parseMethodDescriptor y.desc).map (fun d => d.parameters.length) = some n) (hR : rm.frames + 1 ≤ R.frames ∧ 8 + (maxL + 11) + rm.locals ≤ R.locals) :
    vx_CSW R s args own index y bytes maxL ret hh ws rm mc ms n := by
  have ok : ∀ w ∈ va_wsS own index y ws, w.before args s = true := fun w h => ht w (hT w h).1
  have hG : GoodIn Ts ws := fun w h => hT w (by unfold va_wsS; exact List.mem_append_right _ h)
  have hc : Cond.codeWith y bytes maxL ret hh ∈ ws := by rw [hw]; exact List.mem_cons_self
  refine ⟨⟨hrc, hrs, hR.1, hR.2, pay_in ht hG, hc⟩, ht _ (hG _ hc).1, ok _ (by simp [va_wsS]), ⟨hd.1, hd.2.1⟩, fun sig h => ?_, ok _ (by simp [va_wsS]), ok _ (by simp [va_wsS])⟩
  have h2 := hd.2.2
  rw [h] at h2
  exact (Option.some.inj h2).symm
theorem vx_callSW (X : Stand p l e R s m args below meth c T locs cells slots) (hexec : p.tables.exec = Jvm.exec) {own : String} {index : Nat} {y : MethodName} {bytes : ByteArray} {maxL : Nat} {ret : Option FieldType} {hh : List (Nat × Nat × Nat × Nat)}
    (hown : s.vm.findClass own = some m.cls) (hlink : (Cond.methodLink own index y).before args s = true) (hstat : (Cond.static y).before args s = true) (hinit : (Cond.initialized y.cls).before args s = true)
    (hcode : (Cond.codeWith y bytes maxL ret hh).before args s = true) (hy : y.cls ≠ "java/lang/invoke/MethodHandle" ∧ y.cls ≠ "java/lang/invoke/VarHandle")
    {W9 : Nat} {Pre : Pt → Array Value → Prop} {Post : Pt → Array Value → Option Value → Pt → Prop} (hK : Back l R p e below s args y 3 W9 Pre Post)
    {g : JFrame} (hg : g.method = m) (hsize : g.locals.size = c.maxLocals) {argsL rest : List Value} (hlen : ∀ sig, parseMethodDescriptor y.desc = some sig → argsL.length = sig.parameters.length)
    (hstack : g.stack = argsL.reverse ++ rest) (hW : 2 * g.monitorRoom + (rest.map fun v => v.category).sum ≤ W9) (hdg : decode c.code g.pc = .ok (.invokestatic index, 3))
    (hpre : ∀ vm₁, s.WarmedH vm₁ → Pre ⟨T.setVm vm₁, locs, cells, slots⟩ argsL.toArray) :
    ∃ (v : Option Value) (vm₁ : Vm) (B : Pt), s.WarmedH vm₁ ∧ Stand p l e R s m args below meth c B.U B.locs B.cells B.slots ∧ Post ⟨T.setVm vm₁, locs, cells, slots⟩ argsL.toArray v B ∧
      ∀ target, Steps p.tables e below (B.U.setTop { g with pc := g.pc + 3, stack := v.toList ++ rest }) target → Steps p.tables e below (T.setTop g) target := by
  obtain ⟨mk, methM, cM, hnamed, hmethM, -, -, -, -, -, -, hsigM⟩ := Cond.codeWith_spec hcode
  have hstatic : methM.isStatic = true := Cond.static_spec hnamed hmethM hstat
  obtain ⟨kP, hkP, -⟩ := className_of_methodNamed hnamed
  have hinitP : kP.init = .initialized := Cond.initialized_spec (findClass_of_methodNamed hnamed) hkP hinit
  obtain ⟨vm₁, X₁, hstep₁⟩ := X.invokestatic hexec hown hlink hnamed hmethM hstatic hkP hinitP hy (g := g) hg (argsL := argsL) (rest := rest) (hlen _ hsigM) hstack hdg
  obtain ⟨v, B, X', hpost, hsteps⟩ := hK m meth c ⟨T.setVm vm₁, locs, cells, slots⟩ { g with stack := rest } (.invokestatic index) mk argsL.toArray X₁ hg hsize hdg hW (X₁.named hnamed) (hpre vm₁ X₁.warmed)
  exact ⟨v, vm₁, B, X₁.warmed, X', hpost, fun target h => hstep₁ _ fun acts => by rw [doInvoke_state]; exact hsteps.trans h⟩
theorem vx_runSW {y : MethodName} {bytes cc : ByteArray} {maxL nL mc ms n index : Nat} {ret : Option FieldType} {hh : List (Nat × Nat × Nat × Nat)} {ws : List Cond} {rm : Room} {Pc : Array Value → State → Prop} {Qc : Array Value → State → Outcome → State → Prop} {free : Addr → Prop} {Ts : List Cond} {own : String} {As rest : List Value} {g : JFrame}
    (S : CallFix p m c cc nL s args Ts own) (hM : Met l y ws rm Pc Qc mc ms free) (cw : vx_CSW R s args own index y bytes maxL ret hh ws rm mc ms n) (hp : PreS s H Pc As)
    (hg : g.method = m) (hn : As.length = n) (hsize : g.locals.size = nL) (hstack : g.stack = As.reverse ++ rest) (hW : 2 * g.monitorRoom + (rest.map fun v => v.category).sum ≤ 8) (hdg : decode cc g.pc = .ok (.invokestatic index, 3)) (hf : cells + mc ≤ R.cells ∧ slots + ms ≤ R.slots) :
    va_Run p l e R s m args below meth c H locs cells slots mc ms g rest (Qc As.toArray) (free) := by
  obtain ⟨⟨hrc, hrs, hfr, hlo, hws, hcw⟩, hcode, hini, hy, hlen, hl, hstt⟩ := cw
  have hK : Back l R p e below s args y 3 8 (PreOf R mc ms Pc) (PostOf Qc mc ms free) := va_backW (hh := hh) (bytes := bytes) (maxL := maxL) (ret := ret) hM hp.1 hrc hrs hfr hlo hws hcw (fun a' U hW => word_at hW (Or.inl (by first | rfl | simp [Cond.onTables, Cond.keeps, Cond.steady])) hini)
  obtain ⟨hx, hb, hml, ho, -⟩ := S
  intro T hT X
  obtain ⟨v, vm₁, ⟨U', l2, c2, s2⟩, hW₁, X', ⟨g', mk, t, L, e1, e2, hq, h1, hL, h2, h3⟩, st⟩ := vx_callSW X hx (hh := hh) (bytes := bytes) (maxL := maxL) (ret := ret) ho hl hstt hini hcode hy hK hg (hsize.trans hml.symm) (argsL := As) (rest := rest) (fun sig h => hn.trans (hlen sig h)) hstack hW (by rw [hb]; exact hdg)
    (fun vm₁ hW₁ => ⟨hf.1, hf.2, hp.2 (T.setVm vm₁) hT hW₁⟩)
  dsimp only [Pt.U, Pt.locs, Pt.cells, Pt.slots] at X' e1 e2 h1 h2 h3 st
  subst h1; subst h2; subst h3
  exact ⟨v, (T.setVm vm₁).calling g' mk As.toArray, t, U', L, hT, X', hL, e1, e2, hq, st⟩
/-- not caught here, past rows that name other classes: it goes on to the caller -/
theorem vx_outP {p : Program} {l : Launch} {e : Env} {R : Room} {s : State} {m : MethodId} {args : Array Value} {below : List Frame} {meth : Method} {c : Code} {H : Heap} {locs : List Loc} {cells slots : Nat} {free : Addr → Prop} {ls : Array Slot} {rest : List Value} {Qc : Array Value → State → Outcome → State → Prop} {XC : String → State → State → Prop}
    {pc : Nat} {own E : String} {ce : Cell} {q : Addr} {mc ms : Nat} (hown : s.vm.findClass own = some m.cls) (hlocks : meth.locks = false)
    (hpass : ∀ z ∈ c.exceptionTable.toList, covers z pc = false ∨ (z.catchType ≠ 0 ∧ ∃ nm : String, (Cond.classLink own z.catchType nm).before args s = true ∧ va_Nc E nm s)) (hcell : H[q]? = some ce) (hv : ce.vm = .none) (hcl : s.vm.findClass E = some ce.cls)
    (hx : ∀ t : State, t.heap = H → s.vm.Alike t.vm → XC E s t) (hf : ∀ z ∈ locs, free z.base) (hc : cells ≤ mc) (hs : slots ≤ ms) :
    vx_W p l e R s m args below meth c H locs cells slots (vx_MQ below Qc XC args s mc ms free) (F0 m pc ls rest) q := by
  intro T hT X
  have hpl : e.platform.magicAccessors = ({} : Platform).magicAccessors := by rw [X.admits.platform]
  obtain ⟨vm', hW', X', st⟩ := X.outThrough hlocks q (g := F0 m pc ls rest) rfl rfl rfl (cell := ce) (by rw [hT]; exact hcell) (by rw [hv]; rfl)
    (by obtain ⟨k9, h9, -⟩ := Vm.findClass_spec hcl; exact ⟨k9, h9⟩) (fun z hz => by
      rcases hpass z hz with h | ⟨hz0, nm, hl1, hn1⟩
      · exact Or.inl h
      · obtain ⟨c6, hc6, hcl6⟩ := Cond.classLink_spec hown hl1 e.platform hpl
        obtain ⟨a8, b8, h1, h2, h3⟩ := hn1
        cases Option.some.inj (h1.symm.trans hcl)
        cases Option.some.inj (h2.symm.trans hc6)
        exact Or.inr ⟨hz0, _, hcl6, h3⟩)
  obtain ⟨g₀, hfr⟩ := X'.frames_eq
  have hcell9 : ((T.setVm vm').setFrames (.throwing q :: below)).heap[q]? = some ce := by
    show T.heap[q]? = some ce
    rw [hT]; exact hcell
  have hend : Ended ((T.setVm vm').setFrames (.throwing q :: below)) below (.threw q) := State.frames_setFrames _ (State.cur_lt_of_frames hfr)
  refine ⟨(T.setVm vm').setFrames (.throwing q :: below), ?_, .threw q, X'.here.running, hend, Or.inr ⟨q, rfl, E, ce, locs, hx _ hT (X'.ends _).1.alike, hcell9, hv, hcl, (X'.ends _).1, (X'.ends _).2.mono hc hs, hf⟩⟩
  rw [X.pushThrowing_eq]
  exact st
/-- a thing of a world lies in the heap -/
theorem vx_lt {D : va_G} {cl : List vw_C} {ws : va_W} {H1 : Heap} (h : va_P D cl ws H1) {k : Nat} {q : Nat × va_E} (hk : ws[k]? = some q) : q.1 < H1.size := (h k q hk).lt
end VXS
/-! ===== END ===== -/
/-! ===== BEGIN methods with a table of their own: called by a name, returning or throwing ===== -/
section VXH
/-! vx_backW, vx_callVX, vx_callSX, vx_callVW, vx_runVW, vx_runVX, vx_runSX, vx_ofWH follow the same proofs as their sisters above (Free/Laws.lean, Shelf42/LK1.lean); vx_outP calls Shelf42/NT130.lean (outThrough). -/
section
variable {l : Launch} {R : Room} {p : Program} {e : Env} {below : List Frame} {s : State} {sargs : Array Value} {y : MethodName} {len W9 : Nat}
theorem vx_backW {ws : List Cond} {rm : Room} {Pc : Array Value → State → Prop} {Qc : Array Value → State → Outcome → State → Prop} {XC : String → State → State → Prop} {mc ms : Nat} {free : Addr → Prop} {bytes : ByteArray} {maxL : Nat} {ret : Option FieldType} {hh : List (Nat × Nat × Nat × Nat)}
    (hM : vx_Met l y ws rm Pc Qc XC mc ms free) (hblind : FrameBlind Pc) (hrc : rm.cells = mc) (hrs : rm.slots = ms)
    (hframes : rm.frames + 1 ≤ R.frames) (hlocals : W9 + (maxL + 11) + rm.locals ≤ R.locals)
    (hws : ∀ w ∈ ws, ∀ a' U, s.WarmedH U.vm → w.before a' U = true) (hcode : Cond.codeWith y bytes maxL ret hh ∈ ws) (hinit : ∀ a' U, s.WarmedH U.vm → (Cond.initialized y.cls).before a' U = true) :
    vx_Back l R p e below s sargs y len W9 (PreOf R mc ms Pc) (PostOf Qc mc ms free) (vx_Post XC mc ms free) := by
  intro m meth c A g ig mk a X hg hsize hdg hW hn hp
  have h1 : (headSpec ws rm).pre.before a A.U = true := atoms_intro fun w hw => hws w hw _ _ X.warmed
  have h2 : (Cond.codeWith y bytes maxL ret hh).before a A.U = true := hws _ hcode _ _ X.warmed
  have h3 : (Cond.initialized y.cls).before a A.U = true := hinit _ _ X.warmed
  have h4 : A.cells + (headSpec ws rm).room.cells ≤ R.cells := by rw [show (headSpec ws rm).room.cells = mc from hrc]; exact hp.1
  have h5 : A.slots + (headSpec ws rm).room.slots ≤ R.slots := by rw [show (headSpec ws rm).room.slots = ms from hrs]; exact hp.2.1
  have hPc : Pc a (A.U.calling g mk a) := hblind _ _ _ _ hp.2.2
  obtain ⟨U, Ls, c0, s0⟩ := A
  dsimp only [Pt.U, Pt.locs, Pt.cells, Pt.slots] at h1 h2 h3 h4 h5 X hn hPc ⊢
  obtain ⟨m9, methY, cY, hn9, hmY, hcY, -, hlY, -⟩ := Cond.codeWith_spec h2
  cases Option.some.inj (hn9.symm.trans hn)
  obtain ⟨kY, hkY, -⟩ := className_of_methodNamed hn
  have hinitY : kY.init = .initialized := Cond.initialized_spec (findClass_of_methodNamed hn) hkY h3
  have h : At U g.method c below := by rw [hg]; exact X.here
  have hlocals9 : W9 + (maxL + 11) + (headSpec ws rm).room.locals ≤ R.locals := hlocals
  have happ : (headSpec ws rm).appliesLoose y e.platform (U.calling g mk a) = true :=
    Spec.appliesLoose_calling (g := g) h hdg hn hkY hinitY
      (X.room_calling (g := g) (R' := (headSpec ws rm).room) hsize hmY hcY hframes (by rw [hlY]; omega) h4 h5) h1
  obtain ⟨mid, hmid⟩ := h.above
  have hfr : (U.setTop g).frames = (.java g :: mid) ++ below := by rw [State.frames_setTop' g h.top, hmid]; rfl
  obtain ⟨o, s₂, hsteps, -, hend, hq⟩ := Steps.callFree hM p X.admits X.cas X.clock (acts := []) hfr happ hPc trivial
  have hq' : vx_Q Qc XC mc ms free a (U.calling g mk a) o s₂ := hq
  rw [State.frames_setTop' g h.top] at hend
  obtain ⟨g₀, hg0⟩ := Option.isSome_iff_exists.mp h.top
  obtain ⟨r, hr⟩ := State.topJava?_eq_some.mp hg0
  have hr' : (({ U with heap := s₂.heap, slotsUsed := s₂.slotsUsed } : State).setVm s₂.vm).frames = .java g₀ :: r := hr
  rcases hq' with ⟨hqc, L, hfe, hL⟩ | ⟨q, rfl, E, ce, L, hx, hce, hcv, hcl, hW₂, hsm, hL⟩
  · obtain ⟨⟨v, rfl⟩, hW₂, e2, q2, q3, q4, q5, q6⟩ := id hfe
    have e3 : s₂ = ({ (U.calling g mk a).setFrames s₂.frames with heap := s₂.heap, slotsUsed := s₂.slotsUsed } : State).setVm s₂.vm := by
      have : s₂ = ({ s₂ with vm := (U.calling g mk a).vm } : State).setVm s₂.vm := rfl
      rw [e2] at this
      exact this
    obtain ⟨c₂, i₂, len₂, hc₂, hd₂, hf₂⟩ := hend
    have hW' : U.WarmedH s₂.vm := hW₂
    have hcc : c₂ = c := by
      have h1 : s₂.code? g.method = U.code? g.method := by
        rw [State.code?_eq, State.code?_eq, hW'.alike.method?]
      exact Option.some.inj (hc₂.symm.trans (h1.trans h.code))
    subst hcc
    have hlen : len₂ = len := by rw [hdg] at hd₂; cases hd₂; rfl
    subst hlen
    have hs₂ : s₂ = (({ U with heap := s₂.heap, slotsUsed := s₂.slotsUsed } : State).setVm s₂.vm).setTop { g with pc := g.pc + len₂, stack := v.toList ++ g.stack } := by
      refine e3.trans ?_
      rw [hf₂, State.calling_eq h.top, State.setFrames_setFrames, State.setTop_of_frames _ hr', hr]
      rfl
    have hsame : U.sameButNew ({ U with heap := s₂.heap, slotsUsed := s₂.slotsUsed } : State) L mc ms := by
      refine ⟨?_, q2, q3, q4, q5, q6⟩
      obtain ⟨t, ht, -⟩ := State.frames_cons hr
      show ({ U with heap := s₂.heap, slotsUsed := s₂.slotsUsed } : State) = { U.setFrames U.frames with heap := s₂.heap, slotsUsed := s₂.slotsUsed }
      rw [State.setFrames_self ht]
    subst hg
    refine Or.inl ⟨v, ⟨(({ U with heap := s₂.heap, slotsUsed := s₂.slotsUsed } : State).setVm s₂.vm), Ls ++ L, c0 + mc, s0 + ms⟩,
      ⟨X.admits, X.cas, X.clock, X.frames, X.room, X.hears, X.method, X.code, (X.here.setHeapUsed s₂.heap s₂.slotsUsed).setVm hW'.alike, X.tail, State.WarmedH.trans X.warmed hW', X.limits, X.bytes, X.same.trans (hsame.setVm s.vm)⟩,
      ⟨g, mk, s₂, L, rfl, rfl, hqc, rfl, hL, rfl, rfl⟩, ?_⟩
    show Steps p.tables e below _ ((({ U with heap := s₂.heap, slotsUsed := s₂.slotsUsed } : State).setVm s₂.vm).setTop { g with pc := g.pc + len₂, stack := v.toList ++ g.stack })
    rw [← hs₂]
    exact hsteps
  · obtain ⟨e2, q2, q3, q4, q5, q6⟩ := id hsm
    have e3 : s₂ = ({ (U.calling g mk a).setFrames s₂.frames with heap := s₂.heap, slotsUsed := s₂.slotsUsed } : State).setVm s₂.vm := by
      have : s₂ = ({ s₂ with vm := (U.calling g mk a).vm } : State).setVm s₂.vm := rfl
      rw [e2] at this
      exact this
    have hf₂ : s₂.frames = .throwing q :: .java g :: U.frames.tail := hend
    have hW' : U.WarmedH s₂.vm := hW₂
    have hs₂ : s₂ = ((({ U with heap := s₂.heap, slotsUsed := s₂.slotsUsed } : State).setVm s₂.vm).setTop g).pushFrame (.throwing q) := by
      refine e3.trans ?_
      rw [hf₂, State.calling_eq h.top, State.setFrames_setFrames, State.pushFrame, State.frames_setTop _ hr', State.setTop_of_frames _ hr', State.setFrames_setFrames, hr]
      rfl
    have hsame : U.sameButNew ({ U with heap := s₂.heap, slotsUsed := s₂.slotsUsed } : State) L mc ms := by
      refine ⟨?_, q2, q3, q4, q5, q6⟩
      obtain ⟨t, ht, -⟩ := State.frames_cons hr
      show ({ U with heap := s₂.heap, slotsUsed := s₂.slotsUsed } : State) = { U.setFrames U.frames with heap := s₂.heap, slotsUsed := s₂.slotsUsed }
      rw [State.setFrames_self ht]
    subst hg
    refine Or.inr ⟨q, ⟨(({ U with heap := s₂.heap, slotsUsed := s₂.slotsUsed } : State).setVm s₂.vm), Ls ++ L, c0 + mc, s0 + ms⟩,
      ⟨X.admits, X.cas, X.clock, X.frames, X.room, X.hears, X.method, X.code, (X.here.setHeapUsed s₂.heap s₂.slotsUsed).setVm hW'.alike, X.tail, State.WarmedH.trans X.warmed hW', X.limits, X.bytes, X.same.trans (hsame.setVm s.vm)⟩,
      ⟨g, mk, s₂, L, E, ce, rfl, rfl, hx, hce, hcv, hcl, rfl, hL, rfl, rfl⟩, ?_⟩
    show Steps p.tables e below _ (((({ U with heap := s₂.heap, slotsUsed := s₂.slotsUsed } : State).setVm s₂.vm).setTop g).pushFrame (.throwing q))
    rw [← hs₂]
    exact hsteps
end
variable {p : Program} {l : Launch} {e : Env} {R : Room} {s : State} {m : MethodId} {args : Array Value} {below : List Frame} {meth : Method} {c : Code} {T : State} {H : Heap} {locs : List Loc} {cells slots : Nat}
theorem vx_callVX (X : Stand p l e R s m args below meth c T locs cells slots) (hexec : p.tables.exec = Jvm.exec) {own C : String} {index : Nat} {y : MethodName} {bytes : ByteArray} {maxL : Nat} {ret : Option FieldType} {hh : List (Nat × Nat × Nat × Nat)}
    (hown : s.vm.findClass own = some m.cls) (hlink : (Cond.methodLink own index y).before args s = true) (hinst : (Cond.instanceMethod y).before args s = true) (hsel : (Cond.selects C y y).before args s = true)
    (hcode : (Cond.codeWith y bytes maxL ret hh).before args s = true) (hy : y.cls ≠ "java/lang/invoke/MethodHandle" ∧ y.cls ≠ "java/lang/invoke/VarHandle")
    {W9 : Nat} {Pre : Pt → Array Value → Prop} {Post : Pt → Array Value → Option Value → Pt → Prop} {PostX : Pt → Array Value → Addr → Pt → Prop} (hK : vx_Back l R p e below s args y 3 W9 Pre Post PostX)
    {b : Addr} {cellB : Cell} (hcell : T.heap[b]? = some cellB) (hobj : cellB.vm.isStatics = false) (hcls : s.vm.findClass C = some cellB.cls)
    {g : JFrame} (hg : g.method = m) (hsize : g.locals.size = c.maxLocals) {argsL rest : List Value} (hlen : ∀ sig, parseMethodDescriptor y.desc = some sig → argsL.length = sig.parameters.length)
    (hstack : g.stack = argsL.reverse ++ .ref b :: rest) (hW : 2 * g.monitorRoom + (rest.map fun v => v.category).sum ≤ W9) (hdg : decode c.code g.pc = .ok (.invokevirtual index, 3))
    (hpre : ∀ vm₁, s.WarmedH vm₁ → Pre ⟨T.setVm vm₁, locs, cells, slots⟩ (Value.ref b :: argsL).toArray) :
    (∃ (v : Option Value) (vm₁ : Vm) (B : Pt), s.WarmedH vm₁ ∧ Stand p l e R s m args below meth c B.U B.locs B.cells B.slots ∧ Post ⟨T.setVm vm₁, locs, cells, slots⟩ (Value.ref b :: argsL).toArray v B ∧
      ∀ target, Steps p.tables e below (B.U.setTop { g with pc := g.pc + 3, stack := v.toList ++ rest }) target → Steps p.tables e below (T.setTop g) target) ∨
    (∃ (q : Addr) (vm₁ : Vm) (B : Pt), s.WarmedH vm₁ ∧ Stand p l e R s m args below meth c B.U B.locs B.cells B.slots ∧ PostX ⟨T.setVm vm₁, locs, cells, slots⟩ (Value.ref b :: argsL).toArray q B ∧
      Steps p.tables e below (T.setTop g) ((B.U.setTop { g with stack := rest }).pushFrame (.throwing q))) := by
  obtain ⟨mk, methM, hnamed, hmethM, hstM, habM⟩ := Cond.instanceMethod_spec hinst
  obtain ⟨m8, methM', cM, hn8, hmethM', -, -, -, -, -, -, hsigM⟩ := Cond.codeWith_spec hcode
  cases Option.some.inj (hn8.symm.trans hnamed)
  cases hmethM.symm.trans hmethM'
  obtain ⟨c2, r2, m2, q1, q2, q3, q4, kP, hkP, hkPi⟩ := Cond.selects_spec hsel
  cases hcls.symm.trans q1
  cases (State.methodFound?_of_named hnamed hy).symm.trans q2
  cases hnamed.symm.trans q3
  have hselP : selectMethod e.platform s.vm cellB.cls mk = .method mk := by rw [Launch.admits_selectMethod X.admits]; exact q4
  obtain ⟨vm₁, X₁, hstep₁⟩ := X.invokevirtual hexec hown hlink hnamed hmethM hstM hkP hkPi hy (a := b) (cell := cellB) hcell
    (fun z h => by rw [h] at hobj; cases hobj) hselP hmethM habM hkP hkPi (g := g) hg (argsL := argsL) (rest := rest) (hlen _ hsigM) hstack hdg
  rcases hK m meth c ⟨T.setVm vm₁, locs, cells, slots⟩ { g with stack := rest } (.invokevirtual index) mk (Value.ref b :: argsL).toArray X₁ hg hsize hdg hW (X₁.named hnamed) (hpre vm₁ X₁.warmed) with ⟨v, B, X', hpost, hsteps⟩ | ⟨q, B, X', hpost, hsteps⟩
  · exact Or.inl ⟨v, vm₁, B, X₁.warmed, X', hpost, fun target h => hstep₁ _ fun acts => by rw [doInvoke_state]; exact hsteps.trans h⟩
  · exact Or.inr ⟨q, vm₁, B, X₁.warmed, X', hpost, hstep₁ _ fun acts => by rw [doInvoke_state]; exact hsteps⟩
theorem vx_callSX (X : Stand p l e R s m args below meth c T locs cells slots) (hexec : p.tables.exec = Jvm.exec) {own : String} {index : Nat} {y : MethodName} {bytes : ByteArray} {maxL : Nat} {ret : Option FieldType} {hh : List (Nat × Nat × Nat × Nat)}
    (hown : s.vm.findClass own = some m.cls) (hlink : (Cond.methodLink own index y).before args s = true) (hstat : (Cond.static y).before args s = true) (hinit : (Cond.initialized y.cls).before args s = true)
    (hcode : (Cond.codeWith y bytes maxL ret hh).before args s = true) (hy : y.cls ≠ "java/lang/invoke/MethodHandle" ∧ y.cls ≠ "java/lang/invoke/VarHandle")
    {W9 : Nat} {Pre : Pt → Array Value → Prop} {Post : Pt → Array Value → Option Value → Pt → Prop} {PostX : Pt → Array Value → Addr → Pt → Prop} (hK : vx_Back l R p e below s args y 3 W9 Pre Post PostX)
    {g : JFrame} (hg : g.method = m) (hsize : g.locals.size = c.maxLocals) {argsL rest : List Value} (hlen : ∀ sig, parseMethodDescriptor y.desc = some sig → argsL.length = sig.parameters.length)
    (hstack : g.stack = argsL.reverse ++ rest) (hW : 2 * g.monitorRoom + (rest.map fun v => v.category).sum ≤ W9) (hdg : decode c.code g.pc = .ok (.invokestatic index, 3))
    (hpre : ∀ vm₁, s.WarmedH vm₁ → Pre ⟨T.setVm vm₁, locs, cells, slots⟩ argsL.toArray) :
    (∃ (v : Option Value) (vm₁ : Vm) (B : Pt), s.WarmedH vm₁ ∧ Stand p l e R s m args below meth c B.U B.locs B.cells B.slots ∧ Post ⟨T.setVm vm₁, locs, cells, slots⟩ argsL.toArray v B ∧
      ∀ target, Steps p.tables e below (B.U.setTop { g with pc := g.pc + 3, stack := v.toList ++ rest }) target → Steps p.tables e below (T.setTop g) target) ∨
    (∃ (q : Addr) (vm₁ : Vm) (B : Pt), s.WarmedH vm₁ ∧ Stand p l e R s m args below meth c B.U B.locs B.cells B.slots ∧ PostX ⟨T.setVm vm₁, locs, cells, slots⟩ argsL.toArray q B ∧
      Steps p.tables e below (T.setTop g) ((B.U.setTop { g with stack := rest }).pushFrame (.throwing q))) := by
  obtain ⟨mk, methM, cM, hnamed, hmethM, -, -, -, -, -, -, hsigM⟩ := Cond.codeWith_spec hcode
  have hstatic : methM.isStatic = true := Cond.static_spec hnamed hmethM hstat
  obtain ⟨kP, hkP, -⟩ := className_of_methodNamed hnamed
  have hinitP : kP.init = .initialized := Cond.initialized_spec (findClass_of_methodNamed hnamed) hkP hinit
  obtain ⟨vm₁, X₁, hstep₁⟩ := X.invokestatic hexec hown hlink hnamed hmethM hstatic hkP hinitP hy (g := g) hg (argsL := argsL) (rest := rest) (hlen _ hsigM) hstack hdg
  rcases hK m meth c ⟨T.setVm vm₁, locs, cells, slots⟩ { g with stack := rest } (.invokestatic index) mk argsL.toArray X₁ hg hsize hdg hW (X₁.named hnamed) (hpre vm₁ X₁.warmed) with ⟨v, B, X', hpost, hsteps⟩ | ⟨q, B, X', hpost, hsteps⟩
  · exact Or.inl ⟨v, vm₁, B, X₁.warmed, X', hpost, fun target h => hstep₁ _ fun acts => by rw [doInvoke_state]; exact hsteps.trans h⟩
  · exact Or.inr ⟨q, vm₁, B, X₁.warmed, X', hpost, hstep₁ _ fun acts => by rw [doInvoke_state]; exact hsteps⟩
theorem vx_callVW (X : Stand p l e R s m args below meth c T locs cells slots) (hexec : p.tables.exec = Jvm.exec) {own C : String} {index : Nat} {y : MethodName} {bytes : ByteArray} {maxL : Nat} {ret : Option FieldType} {hh : List (Nat × Nat × Nat × Nat)}
    (hown : s.vm.findClass own = some m.cls) (hlink : (Cond.methodLink own index y).before args s = true) (hinst : (Cond.instanceMethod y).before args s = true) (hsel : (Cond.selects C y y).before args s = true)
    (hcode : (Cond.codeWith y bytes maxL ret hh).before args s = true) (hy : y.cls ≠ "java/lang/invoke/MethodHandle" ∧ y.cls ≠ "java/lang/invoke/VarHandle")
    {W9 : Nat} {Pre : Pt → Array Value → Prop} {Post : Pt → Array Value → Option Value → Pt → Prop} (hK : Back l R p e below s args y 3 W9 Pre Post)
    {b : Addr} {cellB : Cell} (hcell : T.heap[b]? = some cellB) (hobj : cellB.vm.isStatics = false) (hcls : s.vm.findClass C = some cellB.cls)
    {g : JFrame} (hg : g.method = m) (hsize : g.locals.size = c.maxLocals) {argsL rest : List Value} (hlen : ∀ sig, parseMethodDescriptor y.desc = some sig → argsL.length = sig.parameters.length)
    (hstack : g.stack = argsL.reverse ++ .ref b :: rest) (hW : 2 * g.monitorRoom + (rest.map fun v => v.category).sum ≤ W9) (hdg : decode c.code g.pc = .ok (.invokevirtual index, 3))
    (hpre : ∀ vm₁, s.WarmedH vm₁ → Pre ⟨T.setVm vm₁, locs, cells, slots⟩ (Value.ref b :: argsL).toArray) :
    ∃ (v : Option Value) (vm₁ : Vm) (B : Pt), s.WarmedH vm₁ ∧ Stand p l e R s m args below meth c B.U B.locs B.cells B.slots ∧ Post ⟨T.setVm vm₁, locs, cells, slots⟩ (Value.ref b :: argsL).toArray v B ∧
      ∀ target, Steps p.tables e below (B.U.setTop { g with pc := g.pc + 3, stack := v.toList ++ rest }) target → Steps p.tables e below (T.setTop g) target := by
  obtain ⟨mk, methM, hnamed, hmethM, hstM, habM⟩ := Cond.instanceMethod_spec hinst
  obtain ⟨m8, methM', cM, hn8, hmethM', -, -, -, -, -, -, hsigM⟩ := Cond.codeWith_spec hcode
  cases Option.some.inj (hn8.symm.trans hnamed)
  cases hmethM.symm.trans hmethM'
  obtain ⟨c2, r2, m2, q1, q2, q3, q4, kP, hkP, hkPi⟩ := Cond.selects_spec hsel
  cases hcls.symm.trans q1
  cases (State.methodFound?_of_named hnamed hy).symm.trans q2
  cases hnamed.symm.trans q3
  have hselP : selectMethod e.platform s.vm cellB.cls mk = .method mk := by rw [Launch.admits_selectMethod X.admits]; exact q4
  obtain ⟨vm₁, X₁, hstep₁⟩ := X.invokevirtual hexec hown hlink hnamed hmethM hstM hkP hkPi hy (a := b) (cell := cellB) hcell
    (fun z h => by rw [h] at hobj; cases hobj) hselP hmethM habM hkP hkPi (g := g) hg (argsL := argsL) (rest := rest) (hlen _ hsigM) hstack hdg
  obtain ⟨v, B, X', hpost, hsteps⟩ := hK m meth c ⟨T.setVm vm₁, locs, cells, slots⟩ { g with stack := rest } (.invokevirtual index) mk (Value.ref b :: argsL).toArray X₁ hg hsize hdg hW (X₁.named hnamed) (hpre vm₁ X₁.warmed)
  exact ⟨v, vm₁, B, X₁.warmed, X', hpost, fun target h => hstep₁ _ fun acts => by rw [doInvoke_state]; exact hsteps.trans h⟩
abbrev vx_CVW (R : Room) (s : State) (args : Array Value) (own C : String) (index : Nat) (y : MethodName) (bytes : ByteArray) (maxL : Nat) (ret : Option FieldType) (hh : List (Nat × Nat × Nat × Nat)) (ws : List Cond) (rm : Room) (mc ms n : Nat) : Prop :=
  (rm.cells = mc ∧ rm.slots = ms ∧ rm.frames + 1 ≤ R.frames ∧ 8 + (maxL + 11) + rm.locals ≤ R.locals ∧ (∀ w ∈ ws, ∀ (a' : Array Value) (U : State), s.WarmedH U.vm → w.before a' U = true) ∧ Cond.codeWith y bytes maxL ret hh ∈ ws) ∧
  (Cond.codeWith y bytes maxL ret hh).before args s = true ∧ (Cond.initialized y.cls).before args s = true ∧ (y.cls ≠ "java/lang/invoke/MethodHandle" ∧ y.cls ≠ "java/lang/invoke/VarHandle") ∧
  (∀ sig, parseMethodDescriptor y.desc = some sig → n = sig.parameters.length) ∧ (Cond.methodLink own index y).before args s = true ∧ (Cond.instanceMethod y).before args s = true ∧ (Cond.selects C y y).before args s = true
theorem vx_cwVW {own C : String} {index maxL mc ms : Nat} {y : MethodName} {bytes : ByteArray} {ret : Option FieldType} {hh : List (Nat × Nat × Nat × Nat)} {Ts ws ws' : List Cond} {rm : Room} (n : Nat) (ht : ∀ w ∈ Ts, w.before args s = true) (hT : GoodIn Ts (wsV own index C y ws)) (hw : ws = Cond.codeWith y bytes maxL ret hh :: ws') (hrc : rm.cells = mc) (hrs : rm.slots = ms)
    (hd : y.cls = C ∧ y.cls ≠ "java/lang/invoke/MethodHandle" ∧ y.cls ≠ "java/lang/invoke/VarHandle" ∧ (parseMethodDescriptor y.desc).map (fun d => d.parameters.length) = some n) (hR : rm.frames + 1 ≤ R.frames ∧ 8 + (maxL + 11) + rm.locals ≤ R.locals) :
    vx_CVW R s args own C index y bytes maxL ret hh ws rm mc ms n := by
  obtain ⟨hC, hd⟩ := hd
  subst hC
  have ok : ∀ w ∈ wsV own index y.cls y ws, w.before args s = true := fun w h => ht w (hT w h).1
  have hG : GoodIn Ts ws := fun w h => hT w (by unfold wsV; exact List.mem_append_right _ h)
  have hc : Cond.codeWith y bytes maxL ret hh ∈ ws := by rw [hw]; exact List.mem_cons_self
  refine ⟨⟨hrc, hrs, hR.1, hR.2, pay_in ht hG, hc⟩, ht _ (hG _ hc).1, ok _ (by simp [wsV]), ⟨hd.1, hd.2.1⟩, fun sig h => ?_, ok _ (by simp [wsV]), ok _ (by simp [wsV]), ok _ (by simp [wsV])⟩
  have h2 := hd.2.2
  rw [h] at h2
  exact (Option.some.inj h2).symm
theorem vx_runVW {y : MethodName} {bytes cc : ByteArray} {maxL nL mc ms n index : Nat} {ret : Option FieldType} {hh : List (Nat × Nat × Nat × Nat)} {ws : List Cond} {rm : Room} {Pc : Array Value → State → Prop} {Qc : Array Value → State → Outcome → State → Prop} {free : Addr → Prop} {Ts : List Cond} {own C : String} {b : Addr} {As rest : List Value} {g : JFrame}
    (S : CallFix p m c cc nL s args Ts own) (hM : Met l y ws rm Pc Qc mc ms free) (cw : vx_CVW R s args own C index y bytes maxL ret hh ws rm mc ms n) (hp : PreV s H C b Pc As)
    (hg : g.method = m) (hn : As.length = n) (hsize : g.locals.size = nL) (hstack : g.stack = As.reverse ++ .ref b :: rest) (hW : 2 * g.monitorRoom + (rest.map fun v => v.category).sum ≤ 8) (hdg : decode cc g.pc = .ok (.invokevirtual index, 3)) (hf : cells + mc ≤ R.cells ∧ slots + ms ≤ R.slots) :
    va_Run p l e R s m args below meth c H locs cells slots mc ms g rest (Qc (Value.ref b :: As).toArray) free := by
  obtain ⟨⟨hrc, hrs, hfr, hlo, hws, hcw⟩, hcode, hini, hy, hlen, hl, hin, hse⟩ := cw
  have hK : Back l R p e below s args y 3 8 (PreOf R mc ms Pc) (PostOf Qc mc ms free) := va_backW (hh := hh) (bytes := bytes) (maxL := maxL) (ret := ret) hM hp.1 hrc hrs hfr hlo hws hcw (fun a' U hW => word_at hW (Or.inl (by first | rfl | simp [Cond.onTables, Cond.keeps, Cond.steady])) hini)
  obtain ⟨hx, hb, hml, ho, -⟩ := S
  obtain ⟨-, ⟨cellB, hcB, hoB, hclB⟩, hPc⟩ := hp
  intro T hT X
  obtain ⟨v, vm₁, ⟨U', l2, c2, s2⟩, hW₁, X', ⟨g', mk, t, L, e1, e2, hq, h1, hL, h2, h3⟩, st⟩ := vx_callVW X hx (C := C) (hh := hh) (bytes := bytes) (maxL := maxL) (ret := ret) ho hl hin hse hcode hy hK (by rw [hT]; exact hcB) hoB hclB hg (hsize.trans hml.symm) (argsL := As) (rest := rest) (fun sig h => hn.trans (hlen sig h)) hstack hW (by rw [hb]; exact hdg)
    (fun vm₁ hW₁ => ⟨hf.1, hf.2, hPc (T.setVm vm₁) hT hW₁⟩)
  dsimp only [Pt.U, Pt.locs, Pt.cells, Pt.slots] at X' e1 e2 h1 h2 h3 st
  subst h1; subst h2; subst h3
  exact ⟨v, (T.setVm vm₁).calling g' mk (Value.ref b :: As).toArray, t, U', L, hT, X', hL, e1, e2, hq, st⟩
section
variable {y : MethodName} {bytes cc : ByteArray} {maxL nL mc ms n index : Nat} {ret : Option FieldType} {ws : List Cond} {rm : Room} {Pc : Array Value → State → Prop} {Qc : Array Value → State → Outcome → State → Prop} {XC : String → State → State → Prop} {free : Addr → Prop} {Ts : List Cond} {own C : String} {b : Addr} {As rest : List Value} {g : JFrame}
theorem vx_runVX {hh : List (Nat × Nat × Nat × Nat)} (S : CallFix p m c cc nL s args Ts own) (hM : vx_Met l y ws rm Pc Qc XC mc ms free) (cw : vx_CVW R s args own C index y bytes maxL ret hh ws rm mc ms n) (hp : PreV s H C b Pc As)
    (hg : g.method = m) (hn : As.length = n) (hsize : g.locals.size = nL) (hstack : g.stack = As.reverse ++ .ref b :: rest) (hW : 2 * g.monitorRoom + (rest.map fun v => v.category).sum ≤ 8) (hdg : decode cc g.pc = .ok (.invokevirtual index, 3)) (hf : cells + mc ≤ R.cells ∧ slots + ms ≤ R.slots) :
    vx_Run p l e R s m args below meth c H locs cells slots mc ms g rest (Qc (Value.ref b :: As).toArray) XC free := by
  obtain ⟨⟨hrc, hrs, hfr, hlo, hws, hcw⟩, hcode, hini, hy, hlen, hl, hin, hse⟩ := cw
  have hK : vx_Back l R p e below s args y 3 8 (PreOf R mc ms Pc) (PostOf Qc mc ms free) (vx_Post XC mc ms free) := vx_backW (hh := hh) (bytes := bytes) (maxL := maxL) (ret := ret) hM hp.1 hrc hrs hfr hlo hws hcw (fun a' U hW => word_at hW (Or.inl (by first | rfl | simp [Cond.onTables, Cond.keeps, Cond.steady])) hini)
  obtain ⟨hx, hb, hml, ho, -⟩ := S
  obtain ⟨-, ⟨cellB, hcB, hoB, hclB⟩, hPc⟩ := hp
  intro T hT X
  rcases vx_callVX X hx (C := C) (hh := hh) (bytes := bytes) (maxL := maxL) (ret := ret) ho hl hin hse hcode hy hK (by rw [hT]; exact hcB) hoB hclB hg (hsize.trans hml.symm) (argsL := As) (rest := rest) (fun sig h => hn.trans (hlen sig h)) hstack hW (by rw [hb]; exact hdg)
    (fun vm₁ hW₁ => ⟨hf.1, hf.2, hPc (T.setVm vm₁) hT hW₁⟩) with ⟨v, vm₁, ⟨U', l2, c2, s2⟩, hW₁, X', ⟨g', mk, t, L, e1, e2, hq, h1, hL, h2, h3⟩, st⟩ | ⟨q, vm₁, ⟨U', l2, c2, s2⟩, hW₁, X', ⟨g', mk, t, L, E, ce, e1, e2, hq, hce, hcv, hcl, h1, hL, h2, h3⟩, st⟩
  · dsimp only [Pt.U, Pt.locs, Pt.cells, Pt.slots] at X' e1 e2 h1 h2 h3 st
    subst h1; subst h2; subst h3
    exact Or.inl ⟨v, (T.setVm vm₁).calling g' mk (Value.ref b :: As).toArray, t, U', L, hT, X', hL, e1, e2, hq, st⟩
  · dsimp only [Pt.U, Pt.locs, Pt.cells, Pt.slots] at X' e1 e2 h1 h2 h3 st hcl
    subst h1; subst h2; subst h3
    exact Or.inr ⟨q, (T.setVm vm₁).calling g' mk (Value.ref b :: As).toArray, t, U', L, E, ce, hT, X', hL, e1, e2, hq, hce, hcv, vx_cls hW₁ hcl, st⟩
theorem vx_runSX {hh : List (Nat × Nat × Nat × Nat)} (S : CallFix p m c cc nL s args Ts own) (hM : vx_Met l y ws rm Pc Qc XC mc ms free) (cw : vx_CSW R s args own index y bytes maxL ret hh ws rm mc ms n) (hp : PreS s H Pc As)
    (hg : g.method = m) (hn : As.length = n) (hsize : g.locals.size = nL) (hstack : g.stack = As.reverse ++ rest) (hW : 2 * g.monitorRoom + (rest.map fun v => v.category).sum ≤ 8) (hdg : decode cc g.pc = .ok (.invokestatic index, 3)) (hf : cells + mc ≤ R.cells ∧ slots + ms ≤ R.slots) :
    vx_Run p l e R s m args below meth c H locs cells slots mc ms g rest (Qc As.toArray) XC free := by
  obtain ⟨⟨hrc, hrs, hfr, hlo, hws, hcw⟩, hcode, hini, hy, hlen, hl, hstt⟩ := cw
  have hK : vx_Back l R p e below s args y 3 8 (PreOf R mc ms Pc) (PostOf Qc mc ms free) (vx_Post XC mc ms free) := vx_backW (hh := hh) (bytes := bytes) (maxL := maxL) (ret := ret) hM hp.1 hrc hrs hfr hlo hws hcw (fun a' U hW => word_at hW (Or.inl (by first | rfl | simp [Cond.onTables, Cond.keeps, Cond.steady])) hini)
  obtain ⟨hx, hb, hml, ho, -⟩ := S
  intro T hT X
  rcases vx_callSX X hx (hh := hh) (bytes := bytes) (maxL := maxL) (ret := ret) ho hl hstt hini hcode hy hK hg (hsize.trans hml.symm) (argsL := As) (rest := rest) (fun sig h => hn.trans (hlen sig h)) hstack hW (by rw [hb]; exact hdg)
    (fun vm₁ hW₁ => ⟨hf.1, hf.2, hp.2 (T.setVm vm₁) hT hW₁⟩) with ⟨v, vm₁, ⟨U', l2, c2, s2⟩, hW₁, X', ⟨g', mk, t, L, e1, e2, hq, h1, hL, h2, h3⟩, st⟩ | ⟨q, vm₁, ⟨U', l2, c2, s2⟩, hW₁, X', ⟨g', mk, t, L, E, ce, e1, e2, hq, hce, hcv, hcl, h1, hL, h2, h3⟩, st⟩
  · dsimp only [Pt.U, Pt.locs, Pt.cells, Pt.slots] at X' e1 e2 h1 h2 h3 st
    subst h1; subst h2; subst h3
    exact Or.inl ⟨v, (T.setVm vm₁).calling g' mk As.toArray, t, U', L, hT, X', hL, e1, e2, hq, st⟩
  · dsimp only [Pt.U, Pt.locs, Pt.cells, Pt.slots] at X' e1 e2 h1 h2 h3 st hcl
    subst h1; subst h2; subst h3
    exact Or.inr ⟨q, (T.setVm vm₁).calling g' mk As.toArray, t, U', L, E, ce, hT, X', hL, e1, e2, hq, hce, hcv, vx_cls hW₁ hcl, st⟩
end
end VXH
theorem vx_ofWH {l : Launch} {y : MethodName} {ws ws' : List Cond} {rm : Room} {Pc : Array Value → State → Prop} {Qc : Array Value → State → Outcome → State → Prop} {XC : String → State → State → Prop} {mc ms : Nat} {free : Addr → Prop} {cc : ByteArray} {maxL : Nat} {ret : Option FieldType} {hh : List (Nat × Nat × Nat × Nat)}
    (hy : plainName y.cls = true) (hw : ws = Cond.codeWith y cc maxL ret hh :: ws')
    (body : ∀ p e s m args below meth c s₁, BodyLoose p l y (headSpec ws rm) cc maxL ret e s m args below meth c s₁ → c.maxLocals = maxL → Pc args s →
      W p l e (headSpec ws rm).room s m args below meth c s.heap [] 0 0 (vx_MQ below Qc XC args s mc ms free) (entryFrame m args maxL)) : vx_Met l y ws rm Pc Qc XC mc ms free := by
  refine MetFree.of_bodyS (code := cc) (maxLocals := maxL) (ret := ret) hy ?_ ?_
  · intro args s m h hn
    obtain ⟨m9, meth, c, hn9, h1, h2, h3, h4, -, h5, h6, -⟩ := Cond.codeWith_spec (atoms_spec (ws := ws) h _ (by rw [hw]; exact List.mem_cons_self))
    cases hn.symm.trans hn9
    exact ⟨meth, c, h1, h2, h3, h4, h5, h6⟩
  · intro p e s m args below meth c s₁ B hml hP _
    have hh0 : s₁.heap = s.heap := by rw [B.state]; rfl
    obtain ⟨t, a1, o, b1, b2, b3⟩ := body p e s m args below meth c s₁ B hml hP s₁ hh0 (Stand.of_body B)
    exact ⟨t, o, a1, b1, b2, b3⟩
/-! ===== END ===== -/
end
section
def RX0 : String := "ForkHall$Comparison"
def TX0 : u_T := fun k => match k with
  | 0 => ("ForkHall$Comparison", "first", "LForkHall$Tree;", true)
  | 1 => ("ForkHall$Comparison", "second", "LForkHall$Tree;", true)
  | 2 => ("ForkHall$Comparison", "targets", "[I", true)
  | _ => ("ForkHall$Comparison", "sources", "[I", true)
def tyX0 : Nat → FieldType := fun k => match k with
  | 0 => .object "ForkHall$Tree"
  | 1 => .object "ForkHall$Tree"
  | 2 => .array .int
  | _ => .array .int
abbrev wsX00 : List Cond := u_ws RX0 TX0 4
theorem nmX0 : ∀ a, a < 4 → ∀ b, b < 4 → a ≠ b → (TX0 a).2.1 ≠ (TX0 b).2.1 := by decide +kernel
theorem tyX0_ok : ∀ k, k < 4 → parseFieldDescriptor (TX0 k).2.2.1 = some (tyX0 k) := by decide +kernel
abbrev cX0_init : ByteArray := prog_2_method_1_code
def yX0_init : MethodName := ⟨RX0, "<init>", "()V"⟩
abbrev cX0_run : ByteArray := prog_2_method_2_code
def yX0_run : MethodName := ⟨RX0, "run", "(LForkHall$Tree;LForkHall$Tree;)V"⟩
abbrev cX0_takeMoves : ByteArray := prog_2_method_3_code
def yX0_takeMoves : MethodName := ⟨RX0, "takeMoves", "(I)V"⟩
abbrev cX0_isFreeToLeave : ByteArray := prog_2_method_4_code
def yX0_isFreeToLeave : MethodName := ⟨RX0, "isFreeToLeave", "(I)Z"⟩
abbrev cX0_isFreeToCome : ByteArray := prog_2_method_5_code
def yX0_isFreeToCome : MethodName := ⟨RX0, "isFreeToCome", "(I)Z"⟩
abbrev cX0_target : ByteArray := prog_2_method_6_code
def yX0_target : MethodName := ⟨RX0, "target", "(I)I"⟩
abbrev cX0_source : ByteArray := prog_2_method_7_code
def yX0_source : MethodName := ⟨RX0, "source", "(I)I"⟩
abbrev cX0_contentBefore : ByteArray := prog_2_method_8_code
def yX0_contentBefore : MethodName := ⟨RX0, "contentBefore", "(I)I"⟩
abbrev cX0_contentAfter : ByteArray := prog_2_method_9_code
def yX0_contentAfter : MethodName := ⟨RX0, "contentAfter", "(I)I"⟩
abbrev cX0_placeOf : ByteArray := prog_2_method_10_code
def yX0_placeOf : MethodName := ⟨RX0, "placeOf", "(I)I"⟩
abbrev cX0_isNowhereOrUnchanged : ByteArray := prog_2_method_11_code
def yX0_isNowhereOrUnchanged : MethodName := ⟨RX0, "isNowhereOrUnchanged", "(I)Z"⟩
abbrev cX0_newContentAt : ByteArray := prog_2_method_12_code
def yX0_newContentAt : MethodName := ⟨RX0, "newContentAt", "(I)I"⟩
def RX1 : String := "ForkHall$History"
def TX1 : u_T := fun k => match k with
  | 0 => ("ForkHall$History", "trees", "[LForkHall$Tree;", true)
  | 1 => ("ForkHall$History", "noTree", "LForkHall$Tree;", true)
  | 2 => ("ForkHall$History", "firstParents", "[I", true)
  | 3 => ("ForkHall$History", "secondParents", "[I", true)
  | 4 => ("ForkHall$History", "generations", "[I", true)
  | 5 => ("ForkHall$History", "ancestors", "[J", true)
  | 6 => ("ForkHall$History", "marks", "[I", true)
  | _ => ("ForkHall$History", "count", "I", false)
def tyX1 : Nat → FieldType := fun k => match k with
  | 0 => .array (.object "ForkHall$Tree")
  | 1 => .object "ForkHall$Tree"
  | 2 => .array .int
  | 3 => .array .int
  | 4 => .array .int
  | 5 => .array .long
  | 6 => .array .int
  | _ => .int
abbrev wsX10 : List Cond := u_ws RX1 TX1 8
theorem nmX1 : ∀ a, a < 8 → ∀ b, b < 8 → a ≠ b → (TX1 a).2.1 ≠ (TX1 b).2.1 := by decide +kernel
theorem tyX1_ok : ∀ k, k < 8 → parseFieldDescriptor (TX1 k).2.2.1 = some (tyX1 k) := by decide +kernel
abbrev cX1_init : ByteArray := prog_3_method_1_code
def yX1_init : MethodName := ⟨RX1, "<init>", "()V"⟩
abbrev cX1_size : ByteArray := prog_3_method_2_code
def yX1_size : MethodName := ⟨RX1, "size", "()I"⟩
abbrev cX1_has : ByteArray := prog_3_method_3_code
def yX1_has : MethodName := ⟨RX1, "has", "(I)Z"⟩
abbrev cX1_treeOf : ByteArray := prog_3_method_4_code
def yX1_treeOf : MethodName := ⟨RX1, "treeOf", "(I)LForkHall$Tree;"⟩
abbrev cX1_firstParent : ByteArray := prog_3_method_5_code
def yX1_firstParent : MethodName := ⟨RX1, "firstParent", "(I)I"⟩
abbrev cX1_secondParent : ByteArray := prog_3_method_6_code
def yX1_secondParent : MethodName := ⟨RX1, "secondParent", "(I)I"⟩
abbrev cX1_generationAt : ByteArray := prog_3_method_7_code
def yX1_generationAt : MethodName := ⟨RX1, "generationAt", "(I)I"⟩
abbrev cX1_ancestorsAt : ByteArray := prog_3_method_8_code
def yX1_ancestorsAt : MethodName := ⟨RX1, "ancestorsAt", "(I)J"⟩
abbrev cX1_record : ByteArray := prog_3_method_9_code
def yX1_record : MethodName := ⟨RX1, "record", "(LForkHall$Tree;II)I"⟩
abbrev cX1_findSame : ByteArray := prog_3_method_10_code
def yX1_findSame : MethodName := ⟨RX1, "findSame", "(LForkHall$Tree;II)I"⟩
abbrev cX1_dropBackTo : ByteArray := prog_3_method_11_code
def yX1_dropBackTo : MethodName := ⟨RX1, "dropBackTo", "(I)V"⟩
abbrev cX1_isIn : ByteArray := prog_3_method_12_code
def yX1_isIn : MethodName := ⟨RX1, "isIn", "(JI)Z"⟩
abbrev cX1_contains : ByteArray := prog_3_method_13_code
def yX1_contains : MethodName := ⟨RX1, "contains", "(II)Z"⟩
abbrev cX1_bestBase : ByteArray := prog_3_method_14_code
def yX1_bestBase : MethodName := ⟨RX1, "bestBase", "(II)I"⟩
abbrev cX1_countBases : ByteArray := prog_3_method_15_code
def yX1_countBases : MethodName := ⟨RX1, "countBases", "(II)I"⟩
abbrev cX1_walkMeets : ByteArray := prog_3_method_16_code
def yX1_walkMeets : MethodName := ⟨RX1, "walkMeets", "(II)Z"⟩
abbrev cX1_walkToBestBase : ByteArray := prog_3_method_17_code
def yX1_walkToBestBase : MethodName := ⟨RX1, "walkToBestBase", "(II)I"⟩
abbrev cX1_clearMarks : ByteArray := prog_3_method_18_code
def yX1_clearMarks : MethodName := ⟨RX1, "clearMarks", "()V"⟩
abbrev cX1_marksAt : ByteArray := prog_3_method_19_code
def yX1_marksAt : MethodName := ⟨RX1, "marksAt", "(I)I"⟩
abbrev cX1_mark : ByteArray := prog_3_method_20_code
def yX1_mark : MethodName := ⟨RX1, "mark", "(II)V"⟩
abbrev cX1_markParents : ByteArray := prog_3_method_21_code
def yX1_markParents : MethodName := ⟨RX1, "markParents", "(I)V"⟩
abbrev cX1_lastChangeAt : ByteArray := prog_3_method_22_code
def yX1_lastChangeAt : MethodName := ⟨RX1, "lastChangeAt", "(II)I"⟩
abbrev cX1_sumOfFiles : ByteArray := prog_3_method_23_code
def yX1_sumOfFiles : MethodName := ⟨RX1, "sumOfFiles", "()I"⟩
def RX2 : String := "ForkHall$Lines"
def TX2 : u_T := fun k => match k with
  | _ => ("", "", "", false)
def tyX2 : Nat → FieldType := fun k => match k with
  | _ => .int
abbrev wsX20 : List Cond := u_ws RX2 TX2 0
theorem nmX2 : ∀ a, a < 0 → ∀ b, b < 0 → a ≠ b → (TX2 a).2.1 ≠ (TX2 b).2.1 := by decide +kernel
theorem tyX2_ok : ∀ k, k < 0 → parseFieldDescriptor (TX2 k).2.2.1 = some (tyX2 k) := by decide +kernel
abbrev cX2_likeness : ByteArray := prog_4_method_2_code
def yX2_likeness : MethodName := ⟨RX2, "likeness", "(II)I"⟩
abbrev cX2_changed : ByteArray := prog_4_method_3_code
def yX2_changed : MethodName := ⟨RX2, "changed", "(III)I"⟩
abbrev cX2_mergeContents : ByteArray := prog_4_method_4_code
def yX2_mergeContents : MethodName := ⟨RX2, "mergeContents", "(III)I"⟩
def RX3 : String := "ForkHall$Pack"
def TX3 : u_T := fun k => match k with
  | 0 => ("ForkHall$Pack", "contents", "[I", true)
  | 1 => ("ForkHall$Pack", "sources", "[I", true)
  | 2 => ("ForkHall$Pack", "depths", "[I", true)
  | 3 => ("ForkHall$Pack", "count", "I", false)
  | 4 => ("ForkHall$Pack", "commitsTaken", "I", false)
  | _ => ("ForkHall$Pack", "sum", "J", false)
def tyX3 : Nat → FieldType := fun k => match k with
  | 0 => .array .int
  | 1 => .array .int
  | 2 => .array .int
  | 3 => .int
  | 4 => .int
  | _ => .long
abbrev wsX30 : List Cond := u_ws RX3 TX3 6
theorem nmX3 : ∀ a, a < 6 → ∀ b, b < 6 → a ≠ b → (TX3 a).2.1 ≠ (TX3 b).2.1 := by decide +kernel
theorem tyX3_ok : ∀ k, k < 6 → parseFieldDescriptor (TX3 k).2.2.1 = some (tyX3 k) := by decide +kernel
abbrev cX3_init : ByteArray := prog_5_method_1_code
def yX3_init : MethodName := ⟨RX3, "<init>", "()V"⟩
abbrev cX3_size : ByteArray := prog_5_method_2_code
def yX3_size : MethodName := ⟨RX3, "size", "()I"⟩
abbrev cX3_sumOfSizes : ByteArray := prog_5_method_3_code
def yX3_sumOfSizes : MethodName := ⟨RX3, "sumOfSizes", "()J"⟩
abbrev cX3_hasPlace : ByteArray := prog_5_method_4_code
def yX3_hasPlace : MethodName := ⟨RX3, "hasPlace", "(I)Z"⟩
abbrev cX3_find : ByteArray := prog_5_method_5_code
def yX3_find : MethodName := ⟨RX3, "find", "(I)I"⟩
abbrev cX3_depthAt : ByteArray := prog_5_method_6_code
def yX3_depthAt : MethodName := ⟨RX3, "depthAt", "(I)I"⟩
abbrev cX3_sourceAt : ByteArray := prog_5_method_7_code
def yX3_sourceAt : MethodName := ⟨RX3, "sourceAt", "(I)I"⟩
abbrev cX3_catchUpWith : ByteArray := prog_5_method_8_code
def yX3_catchUpWith : MethodName := ⟨RX3, "catchUpWith", "(LForkHall$History;)V"⟩
abbrev cX3_add : ByteArray := prog_5_method_9_code
def yX3_add : MethodName := ⟨RX3, "add", "(I)V"⟩
def RX4 : String := "ForkHall$Tree"
def TX4 : u_T := fun k => match k with
  | _ => ("ForkHall$Tree", "files", "[I", true)
def tyX4 : Nat → FieldType := fun k => match k with
  | _ => .array .int
abbrev wsX40 : List Cond := u_ws RX4 TX4 1
theorem nmX4 : ∀ a, a < 1 → ∀ b, b < 1 → a ≠ b → (TX4 a).2.1 ≠ (TX4 b).2.1 := by decide +kernel
theorem tyX4_ok : ∀ k, k < 1 → parseFieldDescriptor (TX4 k).2.2.1 = some (tyX4 k) := by decide +kernel
abbrev cX4_init : ByteArray := prog_6_method_1_code
def yX4_init : MethodName := ⟨RX4, "<init>", "()V"⟩
abbrev cX4_at : ByteArray := prog_6_method_2_code
def yX4_at : MethodName := ⟨RX4, "at", "(I)I"⟩
abbrev cX4_put : ByteArray := prog_6_method_3_code
def yX4_put : MethodName := ⟨RX4, "put", "(II)V"⟩
abbrev cX4_copy : ByteArray := prog_6_method_4_code
def yX4_copy : MethodName := ⟨RX4, "copy", "(LForkHall$Tree;)V"⟩
abbrev cX4_differences : ByteArray := prog_6_method_5_code
def yX4_differences : MethodName := ⟨RX4, "differences", "(LForkHall$Tree;)I"⟩
abbrev cX4_countFiles : ByteArray := prog_6_method_6_code
def yX4_countFiles : MethodName := ⟨RX4, "countFiles", "()I"⟩
def RX5 : String := "ForkHall$TreeMerge"
def TX5 : u_T := fun k => match k with
  | 0 => ("ForkHall$TreeMerge", "ours", "LForkHall$Comparison;", true)
  | 1 => ("ForkHall$TreeMerge", "theirs", "LForkHall$Comparison;", true)
  | 2 => ("ForkHall$TreeMerge", "result", "LForkHall$Tree;", true)
  | 3 => ("ForkHall$TreeMerge", "arrivals", "[I", true)
  | _ => ("ForkHall$TreeMerge", "conflicting", "I", false)
def tyX5 : Nat → FieldType := fun k => match k with
  | 0 => .object "ForkHall$Comparison"
  | 1 => .object "ForkHall$Comparison"
  | 2 => .object "ForkHall$Tree"
  | 3 => .array .int
  | _ => .int
abbrev wsX50 : List Cond := u_ws RX5 TX5 5
theorem nmX5 : ∀ a, a < 5 → ∀ b, b < 5 → a ≠ b → (TX5 a).2.1 ≠ (TX5 b).2.1 := by decide +kernel
theorem tyX5_ok : ∀ k, k < 5 → parseFieldDescriptor (TX5 k).2.2.1 = some (tyX5 k) := by decide +kernel
abbrev cX5_init : ByteArray := prog_7_method_1_code
def yX5_init : MethodName := ⟨RX5, "<init>", "()V"⟩
abbrev cX5_merged : ByteArray := prog_7_method_2_code
def yX5_merged : MethodName := ⟨RX5, "merged", "()LForkHall$Tree;"⟩
abbrev cX5_moveBetween : ByteArray := prog_7_method_3_code
def yX5_moveBetween : MethodName := ⟨RX5, "moveBetween", "(LForkHall$Tree;LForkHall$Tree;I)I"⟩
abbrev cX5_run : ByteArray := prog_7_method_4_code
def yX5_run : MethodName := ⟨RX5, "run", "(LForkHall$History;III)I"⟩
abbrev cX5_follow : ByteArray := prog_7_method_5_code
def yX5_follow : MethodName := ⟨RX5, "follow", "(I)V"⟩
abbrev cX5_bringNewFiles : ByteArray := prog_7_method_6_code
def yX5_bringNewFiles : MethodName := ⟨RX5, "bringNewFiles", "(I)V"⟩
abbrev cX5_arrive : ByteArray := prog_7_method_7_code
def yX5_arrive : MethodName := ⟨RX5, "arrive", "(II)V"⟩
abbrev cX5_countCrowdedPaths : ByteArray := prog_7_method_8_code
def yX5_countCrowdedPaths : MethodName := ⟨RX5, "countCrowdedPaths", "()I"⟩
def RX6 : String := "ForkHall"
def TX6 : u_T := fun k => match k with
  | 0 => ("ForkHall", "history", "LForkHall$History;", true)
  | 1 => ("ForkHall", "treeMerge", "LForkHall$TreeMerge;", true)
  | 2 => ("ForkHall", "pack", "LForkHall$Pack;", true)
  | 3 => ("ForkHall", "work", "LForkHall$Tree;", true)
  | 4 => ("ForkHall", "heads", "[I", true)
  | 5 => ("ForkHall", "rewritten", "[I", true)
  | _ => ("ForkHall", "current", "I", false)
def tyX6 : Nat → FieldType := fun k => match k with
  | 0 => .object "ForkHall$History"
  | 1 => .object "ForkHall$TreeMerge"
  | 2 => .object "ForkHall$Pack"
  | 3 => .object "ForkHall$Tree"
  | 4 => .array .int
  | 5 => .array .int
  | _ => .int
abbrev wsX60 : List Cond := u_ws RX6 TX6 7
theorem nmX6 : ∀ a, a < 7 → ∀ b, b < 7 → a ≠ b → (TX6 a).2.1 ≠ (TX6 b).2.1 := by decide +kernel
theorem tyX6_ok : ∀ k, k < 7 → parseFieldDescriptor (TX6 k).2.2.1 = some (tyX6 k) := by decide +kernel
abbrev cX6_init : ByteArray := prog_1_method_1_code
def yX6_init : MethodName := ⟨RX6, "<init>", "()V"⟩
abbrev cX6_write : ByteArray := prog_1_method_2_code
def yX6_write : MethodName := ⟨RX6, "write", "(II)I"⟩
abbrev cX6_erase : ByteArray := prog_1_method_3_code
def yX6_erase : MethodName := ⟨RX6, "erase", "(I)I"⟩
abbrev cX6_move : ByteArray := prog_1_method_4_code
def yX6_move : MethodName := ⟨RX6, "move", "(II)I"⟩
abbrev cX6_content : ByteArray := prog_1_method_5_code
def yX6_content : MethodName := ⟨RX6, "content", "(I)I"⟩
abbrev cX6_changedPaths : ByteArray := prog_1_method_6_code
def yX6_changedPaths : MethodName := ⟨RX6, "changedPaths", "()I"⟩
abbrev cX6_commit : ByteArray := prog_1_method_7_code
def yX6_commit : MethodName := ⟨RX6, "commit", "()I"⟩
abbrev cX6_branch : ByteArray := prog_1_method_8_code
def yX6_branch : MethodName := ⟨RX6, "branch", "(I)I"⟩
abbrev cX6_checkOut : ByteArray := prog_1_method_9_code
def yX6_checkOut : MethodName := ⟨RX6, "checkOut", "(I)I"⟩
abbrev cX6_reset : ByteArray := prog_1_method_10_code
def yX6_reset : MethodName := ⟨RX6, "reset", "(I)I"⟩
abbrev cX6_merge : ByteArray := prog_1_method_11_code
def yX6_merge : MethodName := ⟨RX6, "merge", "(I)I"⟩
abbrev cX6_putOnto : ByteArray := prog_1_method_12_code
def yX6_putOnto : MethodName := ⟨RX6, "putOnto", "(I)I"⟩
abbrev cX6_currentBranch : ByteArray := prog_1_method_13_code
def yX6_currentBranch : MethodName := ⟨RX6, "currentBranch", "()I"⟩
abbrev cX6_head : ByteArray := prog_1_method_14_code
def yX6_head : MethodName := ⟨RX6, "head", "(I)I"⟩
abbrev cX6_commits : ByteArray := prog_1_method_15_code
def yX6_commits : MethodName := ⟨RX6, "commits", "()I"⟩
abbrev cX6_contentIn : ByteArray := prog_1_method_16_code
def yX6_contentIn : MethodName := ⟨RX6, "contentIn", "(II)I"⟩
abbrev cX6_parentOf : ByteArray := prog_1_method_17_code
def yX6_parentOf : MethodName := ⟨RX6, "parentOf", "(II)I"⟩
abbrev cX6_generation : ByteArray := prog_1_method_18_code
def yX6_generation : MethodName := ⟨RX6, "generation", "(I)I"⟩
abbrev cX6_isAncestor : ByteArray := prog_1_method_19_code
def yX6_isAncestor : MethodName := ⟨RX6, "isAncestor", "(II)Z"⟩
abbrev cX6_isAncestorByWalking : ByteArray := prog_1_method_20_code
def yX6_isAncestorByWalking : MethodName := ⟨RX6, "isAncestorByWalking", "(II)Z"⟩
abbrev cX6_base : ByteArray := prog_1_method_21_code
def yX6_base : MethodName := ⟨RX6, "base", "(II)I"⟩
abbrev cX6_baseByWalking : ByteArray := prog_1_method_22_code
def yX6_baseByWalking : MethodName := ⟨RX6, "baseByWalking", "(II)I"⟩
abbrev cX6_bases : ByteArray := prog_1_method_23_code
def yX6_bases : MethodName := ⟨RX6, "bases", "(II)I"⟩
abbrev cX6_movedTo : ByteArray := prog_1_method_24_code
def yX6_movedTo : MethodName := ⟨RX6, "movedTo", "(III)I"⟩
abbrev cX6_conflicts : ByteArray := prog_1_method_25_code
def yX6_conflicts : MethodName := ⟨RX6, "conflicts", "(II)I"⟩
abbrev cX6_lastChange : ByteArray := prog_1_method_26_code
def yX6_lastChange : MethodName := ⟨RX6, "lastChange", "(I)I"⟩
abbrev cX6_packed : ByteArray := prog_1_method_27_code
def yX6_packed : MethodName := ⟨RX6, "packed", "()I"⟩
abbrev cX6_depthOf : ByteArray := prog_1_method_28_code
def yX6_depthOf : MethodName := ⟨RX6, "depthOf", "(I)I"⟩
abbrev cX6_packedFrom : ByteArray := prog_1_method_29_code
def yX6_packedFrom : MethodName := ⟨RX6, "packedFrom", "(I)I"⟩
abbrev cX6_packSize : ByteArray := prog_1_method_30_code
def yX6_packSize : MethodName := ⟨RX6, "packSize", "()J"⟩
abbrev cX6_packShare : ByteArray := prog_1_method_31_code
def yX6_packShare : MethodName := ⟨RX6, "packShare", "()F"⟩
abbrev cX6_meanFiles : ByteArray := prog_1_method_32_code
def yX6_meanFiles : MethodName := ⟨RX6, "meanFiles", "()D"⟩
abbrev cX6_isBranchNumber : ByteArray := prog_1_method_33_code
def yX6_isBranchNumber : MethodName := ⟨RX6, "isBranchNumber", "(I)Z"⟩
abbrev cX6_requirePath : ByteArray := prog_1_method_34_code
def yX6_requirePath : MethodName := ⟨RX6, "requirePath", "(I)V"⟩
abbrev cX6_requireFile : ByteArray := prog_1_method_35_code
def yX6_requireFile : MethodName := ⟨RX6, "requireFile", "(LForkHall$Tree;I)I"⟩
abbrev cX6_requireCommit : ByteArray := prog_1_method_36_code
def yX6_requireCommit : MethodName := ⟨RX6, "requireCommit", "(I)V"⟩
abbrev cX6_requireHead : ByteArray := prog_1_method_37_code
def yX6_requireHead : MethodName := ⟨RX6, "requireHead", "(I)I"⟩
abbrev cX6_requireNoChanges : ByteArray := prog_1_method_38_code
def yX6_requireNoChanges : MethodName := ⟨RX6, "requireNoChanges", "()V"⟩
abbrev cX6_headOf : ByteArray := prog_1_method_39_code
def yX6_headOf : MethodName := ⟨RX6, "headOf", "(I)I"⟩
abbrev cX6_takeAsHead : ByteArray := prog_1_method_40_code
def yX6_takeAsHead : MethodName := ⟨RX6, "takeAsHead", "(I)V"⟩
abbrev cX6_recordMerge : ByteArray := prog_1_method_41_code
def yX6_recordMerge : MethodName := ⟨RX6, "recordMerge", "(II)I"⟩
abbrev cX6_listCommitsNotIn : ByteArray := prog_1_method_42_code
def yX6_listCommitsNotIn : MethodName := ⟨RX6, "listCommitsNotIn", "(II)I"⟩
abbrev cX6_applyListed : ByteArray := prog_1_method_43_code
def yX6_applyListed : MethodName := ⟨RX6, "applyListed", "(II)I"⟩
def RX7 : String := "ForkHallModel"
def TX7 : u_T := fun k => match k with
  | 0 => ("ForkHallModel", "trees", "[[I", true)
  | 1 => ("ForkHallModel", "firsts", "[I", true)
  | 2 => ("ForkHallModel", "seconds", "[I", true)
  | 3 => ("ForkHallModel", "commits", "I", false)
  | 4 => ("ForkHallModel", "heads", "[I", true)
  | 5 => ("ForkHallModel", "current", "I", false)
  | 6 => ("ForkHallModel", "work", "[I", true)
  | 7 => ("ForkHallModel", "thrown", "I", false)
  | 8 => ("ForkHallModel", "movedOurs", "[I", true)
  | 9 => ("ForkHallModel", "movedTheirs", "[I", true)
  | 10 => ("ForkHallModel", "result", "[I", true)
  | 11 => ("ForkHallModel", "filesAt", "[I", true)
  | 12 => ("ForkHallModel", "conflicts", "I", false)
  | 13 => ("ForkHallModel", "chain", "[I", true)
  | 14 => ("ForkHallModel", "soFar", "[I", true)
  | 15 => ("ForkHallModel", "common", "[Z", true)
  | 16 => ("ForkHallModel", "contents", "[I", true)
  | 17 => ("ForkHallModel", "sizes", "[I", true)
  | 18 => ("ForkHallModel", "depths", "[I", true)
  | 19 => ("ForkHallModel", "from", "[I", true)
  | 20 => ("ForkHallModel", "packedMany", "I", false)
  | 21 => ("ForkHallModel", "above", "[Z", true)
  | 22 => ("ForkHallModel", "aboveOther", "[Z", true)
  | 23 => ("ForkHallModel", "bases", "[Z", true)
  | _ => ("ForkHallModel", "generations", "[I", true)
def tyX7 : Nat → FieldType := fun k => match k with
  | 0 => .array (.array .int)
  | 1 => .array .int
  | 2 => .array .int
  | 3 => .int
  | 4 => .array .int
  | 5 => .int
  | 6 => .array .int
  | 7 => .int
  | 8 => .array .int
  | 9 => .array .int
  | 10 => .array .int
  | 11 => .array .int
  | 12 => .int
  | 13 => .array .int
  | 14 => .array .int
  | 15 => .array .boolean
  | 16 => .array .int
  | 17 => .array .int
  | 18 => .array .int
  | 19 => .array .int
  | 20 => .int
  | 21 => .array .boolean
  | 22 => .array .boolean
  | 23 => .array .boolean
  | _ => .array .int
abbrev wsX70 : List Cond := u_ws RX7 TX7 25
theorem nmX7 : ∀ a, a < 25 → ∀ b, b < 25 → a ≠ b → (TX7 a).2.1 ≠ (TX7 b).2.1 := by decide +kernel
theorem tyX7_ok : ∀ k, k < 25 → parseFieldDescriptor (TX7 k).2.2.1 = some (tyX7 k) := by decide +kernel
abbrev cX7_init : ByteArray := prog_9_method_1_code
def yX7_init : MethodName := ⟨RX7, "<init>", "()V"⟩
abbrev cX7_thrown : ByteArray := prog_9_method_2_code
def yX7_thrown : MethodName := ⟨RX7, "thrown", "()I"⟩
abbrev cX7_raises : ByteArray := prog_9_method_3_code
def yX7_raises : MethodName := ⟨RX7, "raises", "(I)I"⟩
abbrev cX7_in : ByteArray := prog_9_method_4_code
def yX7_in : MethodName := ⟨RX7, "in", "(III)Z"⟩
abbrev cX7_isPath : ByteArray := prog_9_method_5_code
def yX7_isPath : MethodName := ⟨RX7, "isPath", "(I)Z"⟩
abbrev cX7_isCommit : ByteArray := prog_9_method_6_code
def yX7_isCommit : MethodName := ⟨RX7, "isCommit", "(I)Z"⟩
abbrev cX7_write : ByteArray := prog_9_method_7_code
def yX7_write : MethodName := ⟨RX7, "write", "(II)I"⟩
abbrev cX7_lacks : ByteArray := prog_9_method_8_code
def yX7_lacks : MethodName := ⟨RX7, "lacks", "(I)Z"⟩
abbrev cX7_erase : ByteArray := prog_9_method_9_code
def yX7_erase : MethodName := ⟨RX7, "erase", "(I)I"⟩
abbrev cX7_move : ByteArray := prog_9_method_10_code
def yX7_move : MethodName := ⟨RX7, "move", "(II)I"⟩
abbrev cX7_content : ByteArray := prog_9_method_11_code
def yX7_content : MethodName := ⟨RX7, "content", "(I)I"⟩
abbrev cX7_changed : ByteArray := prog_9_method_12_code
def yX7_changed : MethodName := ⟨RX7, "changed", "()I"⟩
abbrev cX7_changedPaths : ByteArray := prog_9_method_13_code
def yX7_changedPaths : MethodName := ⟨RX7, "changedPaths", "()I"⟩
abbrev cX7_isSame : ByteArray := prog_9_method_14_code
def yX7_isSame : MethodName := ⟨RX7, "isSame", "([I[I)Z"⟩
abbrev cX7_made : ByteArray := prog_9_method_15_code
def yX7_made : MethodName := ⟨RX7, "made", "([III)I"⟩
abbrev cX7_becomes : ByteArray := prog_9_method_16_code
def yX7_becomes : MethodName := ⟨RX7, "becomes", "(I)V"⟩
abbrev cX7_commit : ByteArray := prog_9_method_17_code
def yX7_commit : MethodName := ⟨RX7, "commit", "()I"⟩
abbrev cX7_branch : ByteArray := prog_9_method_18_code
def yX7_branch : MethodName := ⟨RX7, "branch", "(I)I"⟩
abbrev cX7_isNone : ByteArray := prog_9_method_19_code
def yX7_isNone : MethodName := ⟨RX7, "isNone", "(I)Z"⟩
abbrev cX7_checkOut : ByteArray := prog_9_method_20_code
def yX7_checkOut : MethodName := ⟨RX7, "checkOut", "(I)I"⟩
abbrev cX7_reset : ByteArray := prog_9_method_21_code
def yX7_reset : MethodName := ⟨RX7, "reset", "(I)I"⟩
abbrev cX7_findsAbove : ByteArray := prog_9_method_22_code
def yX7_findsAbove : MethodName := ⟨RX7, "findsAbove", "(I[Z)V"⟩
abbrev cX7_isAbove : ByteArray := prog_9_method_23_code
def yX7_isAbove : MethodName := ⟨RX7, "isAbove", "(II)Z"⟩
abbrev cX7_findsBases : ByteArray := prog_9_method_24_code
def yX7_findsBases : MethodName := ⟨RX7, "findsBases", "(II)I"⟩
abbrev cX7_bestBase : ByteArray := prog_9_method_25_code
def yX7_bestBase : MethodName := ⟨RX7, "bestBase", "(II)I"⟩
abbrev cX7_line : ByteArray := prog_9_method_26_code
def yX7_line : MethodName := ⟨RX7, "line", "(II)I"⟩
abbrev cX7_likeness : ByteArray := prog_9_method_27_code
def yX7_likeness : MethodName := ⟨RX7, "likeness", "(II)I"⟩
abbrev cX7_findsMoves : ByteArray := prog_9_method_28_code
def yX7_findsMoves : MethodName := ⟨RX7, "findsMoves", "([I[I[I)V"⟩
abbrev cX7_isTarget : ByteArray := prog_9_method_29_code
def yX7_isTarget : MethodName := ⟨RX7, "isTarget", "([II)Z"⟩
abbrev cX7_placeOf : ByteArray := prog_9_method_30_code
def yX7_placeOf : MethodName := ⟨RX7, "placeOf", "([I[II)I"⟩
abbrev cX7_joined : ByteArray := prog_9_method_31_code
def yX7_joined : MethodName := ⟨RX7, "joined", "(III)I"⟩
abbrev cX7_follows : ByteArray := prog_9_method_32_code
def yX7_follows : MethodName := ⟨RX7, "follows", "([I[I[II)Z"⟩
abbrev cX7_comes : ByteArray := prog_9_method_33_code
def yX7_comes : MethodName := ⟨RX7, "comes", "(II)V"⟩
abbrev cX7_isNew : ByteArray := prog_9_method_34_code
def yX7_isNew : MethodName := ⟨RX7, "isNew", "([I[I[II)Z"⟩
abbrev cX7_merges : ByteArray := prog_9_method_35_code
def yX7_merges : MethodName := ⟨RX7, "merges", "([I[I[I)I"⟩
abbrev cX7_merge : ByteArray := prog_9_method_36_code
def yX7_merge : MethodName := ⟨RX7, "merge", "(I)I"⟩
abbrev cX7_putOnto : ByteArray := prog_9_method_37_code
def yX7_putOnto : MethodName := ⟨RX7, "putOnto", "(I)I"⟩
abbrev cX7_applied : ByteArray := prog_9_method_38_code
def yX7_applied : MethodName := ⟨RX7, "applied", "(II)I"⟩
abbrev cX7_currentBranch : ByteArray := prog_9_method_39_code
def yX7_currentBranch : MethodName := ⟨RX7, "currentBranch", "()I"⟩
abbrev cX7_head : ByteArray := prog_9_method_40_code
def yX7_head : MethodName := ⟨RX7, "head", "(I)I"⟩
abbrev cX7_commits : ByteArray := prog_9_method_41_code
def yX7_commits : MethodName := ⟨RX7, "commits", "()I"⟩
abbrev cX7_contentIn : ByteArray := prog_9_method_42_code
def yX7_contentIn : MethodName := ⟨RX7, "contentIn", "(II)I"⟩
abbrev cX7_parentOf : ByteArray := prog_9_method_43_code
def yX7_parentOf : MethodName := ⟨RX7, "parentOf", "(II)I"⟩
abbrev cX7_findsGenerations : ByteArray := prog_9_method_44_code
def yX7_findsGenerations : MethodName := ⟨RX7, "findsGenerations", "()V"⟩
abbrev cX7_generation : ByteArray := prog_9_method_45_code
def yX7_generation : MethodName := ⟨RX7, "generation", "(I)I"⟩
abbrev cX7_areCommits : ByteArray := prog_9_method_46_code
def yX7_areCommits : MethodName := ⟨RX7, "areCommits", "(II)Z"⟩
abbrev cX7_isAncestor : ByteArray := prog_9_method_47_code
def yX7_isAncestor : MethodName := ⟨RX7, "isAncestor", "(II)Z"⟩
abbrev cX7_isAncestorByWalking : ByteArray := prog_9_method_48_code
def yX7_isAncestorByWalking : MethodName := ⟨RX7, "isAncestorByWalking", "(II)Z"⟩
abbrev cX7_base : ByteArray := prog_9_method_49_code
def yX7_base : MethodName := ⟨RX7, "base", "(II)I"⟩
abbrev cX7_baseByWalking : ByteArray := prog_9_method_50_code
def yX7_baseByWalking : MethodName := ⟨RX7, "baseByWalking", "(II)I"⟩
abbrev cX7_bases : ByteArray := prog_9_method_51_code
def yX7_bases : MethodName := ⟨RX7, "bases", "(II)I"⟩
abbrev cX7_movedTo : ByteArray := prog_9_method_52_code
def yX7_movedTo : MethodName := ⟨RX7, "movedTo", "(III)I"⟩
abbrev cX7_conflicts : ByteArray := prog_9_method_53_code
def yX7_conflicts : MethodName := ⟨RX7, "conflicts", "(II)I"⟩
abbrev cX7_lastChange : ByteArray := prog_9_method_54_code
def yX7_lastChange : MethodName := ⟨RX7, "lastChange", "(I)I"⟩
abbrev cX7_packedAt : ByteArray := prog_9_method_55_code
def yX7_packedAt : MethodName := ⟨RX7, "packedAt", "(I)I"⟩
abbrev cX7_packs : ByteArray := prog_9_method_56_code
def yX7_packs : MethodName := ⟨RX7, "packs", "(I)V"⟩
abbrev cX7_packsAll : ByteArray := prog_9_method_57_code
def yX7_packsAll : MethodName := ⟨RX7, "packsAll", "()V"⟩
abbrev cX7_packed : ByteArray := prog_9_method_58_code
def yX7_packed : MethodName := ⟨RX7, "packed", "()I"⟩
abbrev cX7_depthOf : ByteArray := prog_9_method_59_code
def yX7_depthOf : MethodName := ⟨RX7, "depthOf", "(I)I"⟩
abbrev cX7_packedFrom : ByteArray := prog_9_method_60_code
def yX7_packedFrom : MethodName := ⟨RX7, "packedFrom", "(I)I"⟩
abbrev cX7_sum : ByteArray := prog_9_method_61_code
def yX7_sum : MethodName := ⟨RX7, "sum", "()J"⟩
abbrev cX7_packSize : ByteArray := prog_9_method_62_code
def yX7_packSize : MethodName := ⟨RX7, "packSize", "()J"⟩
abbrev cX7_packShare : ByteArray := prog_9_method_63_code
def yX7_packShare : MethodName := ⟨RX7, "packShare", "()F"⟩
abbrev cX7_meanFiles : ByteArray := prog_9_method_64_code
def yX7_meanFiles : MethodName := ⟨RX7, "meanFiles", "()D"⟩
def RJx145de : String := "java/io/Serializable"
def TJx145de : u_T := fun k => match k with
  | _ => ("", "", "", false)
def tyJx145de : Nat → FieldType := fun k => match k with
  | _ => .int
def RJx00060 : String := "java/lang/ArrayIndexOutOfBoundsException"
def TJx00060 : u_T := fun k => match k with
  | 0 => ("java/lang/Throwable", "backtrace", "Ljava/lang/Object;", false)
  | 1 => ("java/lang/Throwable", "detailMessage", "Ljava/lang/String;", false)
  | 2 => ("java/lang/Throwable", "cause", "Ljava/lang/Throwable;", false)
  | 3 => ("java/lang/Throwable", "stackTrace", "[Ljava/lang/StackTraceElement;", false)
  | 4 => ("java/lang/Throwable", "depth", "I", false)
  | _ => ("java/lang/Throwable", "suppressedExceptions", "Ljava/util/List;", false)
def tyJx00060 : Nat → FieldType := fun k => match k with
  | 0 => .object "java/lang/Object"
  | 1 => .object "java/lang/String"
  | 2 => .object "java/lang/Throwable"
  | 3 => .array (.object "java/lang/StackTraceElement")
  | 4 => .int
  | _ => .object "java/util/List"
abbrev cJx00060_init_a7421 : ByteArray := prog_12_method_2_code
def yJx00060_init_a7421 : MethodName := ⟨RJx00060, "<init>", "(Ljava/lang/String;)V"⟩
def RJ13 : String := "java/lang/Long"
def TJ13 : u_T := fun k => match k with
  | _ => ("", "", "", false)
def tyJ13 : Nat → FieldType := fun k => match k with
  | _ => .int
abbrev cJ13_bitCount_95d88 : ByteArray := prog_17_method_50_code
def yJ13_bitCount_95d88 : MethodName := ⟨RJ13, "bitCount", "(J)I"⟩
def RJ9 : String := "java/lang/Math"
def TJ9 : u_T := fun k => match k with
  | _ => ("", "", "", false)
def tyJ9 : Nat → FieldType := fun k => match k with
  | _ => .int
abbrev cJ9_max_7cf53 : ByteArray := prog_18_method_65_code
def yJ9_max_7cf53 : MethodName := ⟨RJ9, "max", "(II)I"⟩
abbrev cJ9_min_7cf53 : ByteArray := prog_18_method_69_code
def yJ9_min_7cf53 : MethodName := ⟨RJ9, "min", "(II)I"⟩
def RJ0 : String := "java/lang/String"
def TJ0 : u_T := fun k => match k with
  | 0 => ("java/lang/String", "value", "[B", true)
  | _ => ("java/lang/String", "coder", "B", true)
def tyJ0 : Nat → FieldType := fun k => match k with
  | 0 => .array .byte
  | _ => .byte
def RL : String := "ForkHallLaw"
abbrev cL_write : ByteArray := method_3_code
def yL_write : MethodName := ⟨RL, "write", "(LForkHall;II[J)I"⟩
abbrev cL_erase : ByteArray := method_4_code
def yL_erase : MethodName := ⟨RL, "erase", "(LForkHall;I[J)I"⟩
abbrev cL_move : ByteArray := method_5_code
def yL_move : MethodName := ⟨RL, "move", "(LForkHall;II[J)I"⟩
abbrev cL_content : ByteArray := method_6_code
def yL_content : MethodName := ⟨RL, "content", "(LForkHall;I[J)I"⟩
abbrev cL_commit : ByteArray := method_7_code
def yL_commit : MethodName := ⟨RL, "commit", "(LForkHall;[J)I"⟩
abbrev cL_branch : ByteArray := method_8_code
def yL_branch : MethodName := ⟨RL, "branch", "(LForkHall;I[J)I"⟩
abbrev cL_checkOut : ByteArray := method_9_code
def yL_checkOut : MethodName := ⟨RL, "checkOut", "(LForkHall;I[J)I"⟩
abbrev cL_reset : ByteArray := method_10_code
def yL_reset : MethodName := ⟨RL, "reset", "(LForkHall;I[J)I"⟩
abbrev cL_merge : ByteArray := method_11_code
def yL_merge : MethodName := ⟨RL, "merge", "(LForkHall;I[J)I"⟩
abbrev cL_putOnto : ByteArray := method_12_code
def yL_putOnto : MethodName := ⟨RL, "putOnto", "(LForkHall;I[J)I"⟩
abbrev cL_head : ByteArray := method_13_code
def yL_head : MethodName := ⟨RL, "head", "(LForkHall;I[J)I"⟩
abbrev cL_contentIn : ByteArray := method_14_code
def yL_contentIn : MethodName := ⟨RL, "contentIn", "(LForkHall;II[J)I"⟩
abbrev cL_parentOf : ByteArray := method_15_code
def yL_parentOf : MethodName := ⟨RL, "parentOf", "(LForkHall;II[J)I"⟩
abbrev cL_generation : ByteArray := method_16_code
def yL_generation : MethodName := ⟨RL, "generation", "(LForkHall;I[J)I"⟩
abbrev cL_isAncestor : ByteArray := method_17_code
def yL_isAncestor : MethodName := ⟨RL, "isAncestor", "(LForkHall;II[J)I"⟩
abbrev cL_isAncestorByWalking : ByteArray := method_18_code
def yL_isAncestorByWalking : MethodName := ⟨RL, "isAncestorByWalking", "(LForkHall;II[J)I"⟩
abbrev cL_base : ByteArray := method_19_code
def yL_base : MethodName := ⟨RL, "base", "(LForkHall;II[J)I"⟩
abbrev cL_baseByWalking : ByteArray := method_20_code
def yL_baseByWalking : MethodName := ⟨RL, "baseByWalking", "(LForkHall;II[J)I"⟩
abbrev cL_bases : ByteArray := method_21_code
def yL_bases : MethodName := ⟨RL, "bases", "(LForkHall;II[J)I"⟩
abbrev cL_movedTo : ByteArray := method_22_code
def yL_movedTo : MethodName := ⟨RL, "movedTo", "(LForkHall;III[J)I"⟩
abbrev cL_conflicts : ByteArray := method_23_code
def yL_conflicts : MethodName := ⟨RL, "conflicts", "(LForkHall;II[J)I"⟩
abbrev cL_lastChange : ByteArray := method_24_code
def yL_lastChange : MethodName := ⟨RL, "lastChange", "(LForkHall;I[J)I"⟩
abbrev cL_depthOf : ByteArray := method_25_code
def yL_depthOf : MethodName := ⟨RL, "depthOf", "(LForkHall;I[J)I"⟩
abbrev cL_packedFrom : ByteArray := method_26_code
def yL_packedFrom : MethodName := ⟨RL, "packedFrom", "(LForkHall;I[J)I"⟩
abbrev cL_packShare : ByteArray := method_27_code
def yL_packShare : MethodName := ⟨RL, "packShare", "(LForkHall;[D)I"⟩
abbrev cL_law : ByteArray := code
def yL_law : MethodName := ⟨RL, "law", "([I)Z"⟩
abbrev vwCl : List vw_C := [(RJ0, TJ0, 2), (RJx00060, TJx00060, 6), (RX0, TX0, 4), (RX1, TX1, 8), (RX3, TX3, 6), (RX4, TX4, 1), (RX5, TX5, 5), (RX6, TX6, 7), (RX7, TX7, 25)]
end
section
theorem dL_write_0 : decode cL_write 0 = .ok (.aload_n 3, 1) := by decide +kernel
theorem dL_write_1 : decode cL_write 1 = .ok (.iconst 0, 1) := by decide +kernel
theorem dL_write_2 : decode cL_write 2 = .ok (.aload_n 0, 1) := by decide +kernel
theorem dL_write_3 : decode cL_write 3 = .ok (.iload_n 1, 1) := by decide +kernel
theorem dL_write_4 : decode cL_write 4 = .ok (.iload_n 2, 1) := by decide +kernel
theorem dL_write_5 : decode cL_write 5 = .ok (.invokevirtual 7, 3) := by decide +kernel
theorem dL_write_8 : decode cL_write 8 = .ok (.i2l, 1) := by decide +kernel
theorem dL_write_9 : decode cL_write 9 = .ok (.lastore, 1) := by decide +kernel
theorem dL_write_10 : decode cL_write 10 = .ok (.goto 11, 3) := by decide +kernel
theorem dL_write_13 : decode cL_write 13 = .ok (.astore 4, 2) := by decide +kernel
theorem dL_write_15 : decode cL_write 15 = .ok (.iconst 1, 1) := by decide +kernel
theorem dL_write_16 : decode cL_write 16 = .ok (.ireturn, 1) := by decide +kernel
theorem dL_write_17 : decode cL_write 17 = .ok (.astore 4, 2) := by decide +kernel
theorem dL_write_19 : decode cL_write 19 = .ok (.iconst 2, 1) := by decide +kernel
theorem dL_write_20 : decode cL_write 20 = .ok (.ireturn, 1) := by decide +kernel
theorem dL_write_21 : decode cL_write 21 = .ok (.iconst 0, 1) := by decide +kernel
theorem dL_write_22 : decode cL_write 22 = .ok (.ireturn, 1) := by decide +kernel
theorem dL_erase_0 : decode cL_erase 0 = .ok (.aload_n 2, 1) := by decide +kernel
theorem dL_erase_1 : decode cL_erase 1 = .ok (.iconst 0, 1) := by decide +kernel
theorem dL_erase_2 : decode cL_erase 2 = .ok (.aload_n 0, 1) := by decide +kernel
theorem dL_erase_3 : decode cL_erase 3 = .ok (.iload_n 1, 1) := by decide +kernel
theorem dL_erase_4 : decode cL_erase 4 = .ok (.invokevirtual 17, 3) := by decide +kernel
theorem dL_erase_7 : decode cL_erase 7 = .ok (.i2l, 1) := by decide +kernel
theorem dL_erase_8 : decode cL_erase 8 = .ok (.lastore, 1) := by decide +kernel
theorem dL_erase_9 : decode cL_erase 9 = .ok (.goto 9, 3) := by decide +kernel
theorem dL_erase_12 : decode cL_erase 12 = .ok (.astore_n 3, 1) := by decide +kernel
theorem dL_erase_13 : decode cL_erase 13 = .ok (.iconst 1, 1) := by decide +kernel
theorem dL_erase_14 : decode cL_erase 14 = .ok (.ireturn, 1) := by decide +kernel
theorem dL_erase_15 : decode cL_erase 15 = .ok (.astore_n 3, 1) := by decide +kernel
theorem dL_erase_16 : decode cL_erase 16 = .ok (.iconst 2, 1) := by decide +kernel
theorem dL_erase_17 : decode cL_erase 17 = .ok (.ireturn, 1) := by decide +kernel
theorem dL_erase_18 : decode cL_erase 18 = .ok (.iconst 0, 1) := by decide +kernel
theorem dL_erase_19 : decode cL_erase 19 = .ok (.ireturn, 1) := by decide +kernel
theorem dL_move_0 : decode cL_move 0 = .ok (.aload_n 3, 1) := by decide +kernel
theorem dL_move_1 : decode cL_move 1 = .ok (.iconst 0, 1) := by decide +kernel
theorem dL_move_2 : decode cL_move 2 = .ok (.aload_n 0, 1) := by decide +kernel
theorem dL_move_3 : decode cL_move 3 = .ok (.iload_n 1, 1) := by decide +kernel
theorem dL_move_4 : decode cL_move 4 = .ok (.iload_n 2, 1) := by decide +kernel
theorem dL_move_5 : decode cL_move 5 = .ok (.invokevirtual 23, 3) := by decide +kernel
theorem dL_move_8 : decode cL_move 8 = .ok (.i2l, 1) := by decide +kernel
theorem dL_move_9 : decode cL_move 9 = .ok (.lastore, 1) := by decide +kernel
theorem dL_move_10 : decode cL_move 10 = .ok (.goto 15, 3) := by decide +kernel
theorem dL_move_13 : decode cL_move 13 = .ok (.astore 4, 2) := by decide +kernel
theorem dL_move_15 : decode cL_move 15 = .ok (.iconst 1, 1) := by decide +kernel
theorem dL_move_16 : decode cL_move 16 = .ok (.ireturn, 1) := by decide +kernel
theorem dL_move_17 : decode cL_move 17 = .ok (.astore 4, 2) := by decide +kernel
theorem dL_move_19 : decode cL_move 19 = .ok (.iconst 2, 1) := by decide +kernel
theorem dL_move_20 : decode cL_move 20 = .ok (.ireturn, 1) := by decide +kernel
theorem dL_move_21 : decode cL_move 21 = .ok (.astore 4, 2) := by decide +kernel
theorem dL_move_23 : decode cL_move 23 = .ok (.iconst 3, 1) := by decide +kernel
theorem dL_move_24 : decode cL_move 24 = .ok (.ireturn, 1) := by decide +kernel
theorem dL_move_25 : decode cL_move 25 = .ok (.iconst 0, 1) := by decide +kernel
theorem dL_move_26 : decode cL_move 26 = .ok (.ireturn, 1) := by decide +kernel
theorem dL_content_0 : decode cL_content 0 = .ok (.aload_n 2, 1) := by decide +kernel
theorem dL_content_1 : decode cL_content 1 = .ok (.iconst 0, 1) := by decide +kernel
theorem dL_content_2 : decode cL_content 2 = .ok (.aload_n 0, 1) := by decide +kernel
theorem dL_content_3 : decode cL_content 3 = .ok (.iload_n 1, 1) := by decide +kernel
theorem dL_content_4 : decode cL_content 4 = .ok (.invokevirtual 28, 3) := by decide +kernel
theorem dL_content_7 : decode cL_content 7 = .ok (.i2l, 1) := by decide +kernel
theorem dL_content_8 : decode cL_content 8 = .ok (.lastore, 1) := by decide +kernel
theorem dL_content_9 : decode cL_content 9 = .ok (.goto 9, 3) := by decide +kernel
theorem dL_content_12 : decode cL_content 12 = .ok (.astore_n 3, 1) := by decide +kernel
theorem dL_content_13 : decode cL_content 13 = .ok (.iconst 1, 1) := by decide +kernel
theorem dL_content_14 : decode cL_content 14 = .ok (.ireturn, 1) := by decide +kernel
theorem dL_content_15 : decode cL_content 15 = .ok (.astore_n 3, 1) := by decide +kernel
theorem dL_content_16 : decode cL_content 16 = .ok (.iconst 2, 1) := by decide +kernel
theorem dL_content_17 : decode cL_content 17 = .ok (.ireturn, 1) := by decide +kernel
theorem dL_content_18 : decode cL_content 18 = .ok (.iconst 0, 1) := by decide +kernel
theorem dL_content_19 : decode cL_content 19 = .ok (.ireturn, 1) := by decide +kernel
theorem dL_commit_0 : decode cL_commit 0 = .ok (.aload_n 1, 1) := by decide +kernel
theorem dL_commit_1 : decode cL_commit 1 = .ok (.iconst 0, 1) := by decide +kernel
theorem dL_commit_2 : decode cL_commit 2 = .ok (.aload_n 0, 1) := by decide +kernel
theorem dL_commit_3 : decode cL_commit 3 = .ok (.invokevirtual 31, 3) := by decide +kernel
theorem dL_commit_6 : decode cL_commit 6 = .ok (.i2l, 1) := by decide +kernel
theorem dL_commit_7 : decode cL_commit 7 = .ok (.lastore, 1) := by decide +kernel
theorem dL_commit_8 : decode cL_commit 8 = .ok (.goto 6, 3) := by decide +kernel
theorem dL_commit_11 : decode cL_commit 11 = .ok (.astore_n 2, 1) := by decide +kernel
theorem dL_commit_12 : decode cL_commit 12 = .ok (.iconst 1, 1) := by decide +kernel
theorem dL_commit_13 : decode cL_commit 13 = .ok (.ireturn, 1) := by decide +kernel
theorem dL_commit_14 : decode cL_commit 14 = .ok (.iconst 0, 1) := by decide +kernel
theorem dL_commit_15 : decode cL_commit 15 = .ok (.ireturn, 1) := by decide +kernel
theorem dL_branch_0 : decode cL_branch 0 = .ok (.aload_n 2, 1) := by decide +kernel
theorem dL_branch_1 : decode cL_branch 1 = .ok (.iconst 0, 1) := by decide +kernel
theorem dL_branch_2 : decode cL_branch 2 = .ok (.aload_n 0, 1) := by decide +kernel
theorem dL_branch_3 : decode cL_branch 3 = .ok (.iload_n 1, 1) := by decide +kernel
theorem dL_branch_4 : decode cL_branch 4 = .ok (.invokevirtual 35, 3) := by decide +kernel
theorem dL_branch_7 : decode cL_branch 7 = .ok (.i2l, 1) := by decide +kernel
theorem dL_branch_8 : decode cL_branch 8 = .ok (.lastore, 1) := by decide +kernel
theorem dL_branch_9 : decode cL_branch 9 = .ok (.goto 9, 3) := by decide +kernel
theorem dL_branch_12 : decode cL_branch 12 = .ok (.astore_n 3, 1) := by decide +kernel
theorem dL_branch_13 : decode cL_branch 13 = .ok (.iconst 1, 1) := by decide +kernel
theorem dL_branch_14 : decode cL_branch 14 = .ok (.ireturn, 1) := by decide +kernel
theorem dL_branch_15 : decode cL_branch 15 = .ok (.astore_n 3, 1) := by decide +kernel
theorem dL_branch_16 : decode cL_branch 16 = .ok (.iconst 2, 1) := by decide +kernel
theorem dL_branch_17 : decode cL_branch 17 = .ok (.ireturn, 1) := by decide +kernel
theorem dL_branch_18 : decode cL_branch 18 = .ok (.iconst 0, 1) := by decide +kernel
theorem dL_branch_19 : decode cL_branch 19 = .ok (.ireturn, 1) := by decide +kernel
theorem dL_checkOut_0 : decode cL_checkOut 0 = .ok (.aload_n 2, 1) := by decide +kernel
theorem dL_checkOut_1 : decode cL_checkOut 1 = .ok (.iconst 0, 1) := by decide +kernel
theorem dL_checkOut_2 : decode cL_checkOut 2 = .ok (.aload_n 0, 1) := by decide +kernel
theorem dL_checkOut_3 : decode cL_checkOut 3 = .ok (.iload_n 1, 1) := by decide +kernel
theorem dL_checkOut_4 : decode cL_checkOut 4 = .ok (.invokevirtual 38, 3) := by decide +kernel
theorem dL_checkOut_7 : decode cL_checkOut 7 = .ok (.i2l, 1) := by decide +kernel
theorem dL_checkOut_8 : decode cL_checkOut 8 = .ok (.lastore, 1) := by decide +kernel
theorem dL_checkOut_9 : decode cL_checkOut 9 = .ok (.goto 12, 3) := by decide +kernel
theorem dL_checkOut_12 : decode cL_checkOut 12 = .ok (.astore_n 3, 1) := by decide +kernel
theorem dL_checkOut_13 : decode cL_checkOut 13 = .ok (.iconst 1, 1) := by decide +kernel
theorem dL_checkOut_14 : decode cL_checkOut 14 = .ok (.ireturn, 1) := by decide +kernel
theorem dL_checkOut_15 : decode cL_checkOut 15 = .ok (.astore_n 3, 1) := by decide +kernel
theorem dL_checkOut_16 : decode cL_checkOut 16 = .ok (.iconst 2, 1) := by decide +kernel
theorem dL_checkOut_17 : decode cL_checkOut 17 = .ok (.ireturn, 1) := by decide +kernel
theorem dL_checkOut_18 : decode cL_checkOut 18 = .ok (.astore_n 3, 1) := by decide +kernel
theorem dL_checkOut_19 : decode cL_checkOut 19 = .ok (.iconst 3, 1) := by decide +kernel
theorem dL_checkOut_20 : decode cL_checkOut 20 = .ok (.ireturn, 1) := by decide +kernel
theorem dL_checkOut_21 : decode cL_checkOut 21 = .ok (.iconst 0, 1) := by decide +kernel
theorem dL_checkOut_22 : decode cL_checkOut 22 = .ok (.ireturn, 1) := by decide +kernel
theorem dL_reset_0 : decode cL_reset 0 = .ok (.aload_n 2, 1) := by decide +kernel
theorem dL_reset_1 : decode cL_reset 1 = .ok (.iconst 0, 1) := by decide +kernel
theorem dL_reset_2 : decode cL_reset 2 = .ok (.aload_n 0, 1) := by decide +kernel
theorem dL_reset_3 : decode cL_reset 3 = .ok (.iload_n 1, 1) := by decide +kernel
theorem dL_reset_4 : decode cL_reset 4 = .ok (.invokevirtual 41, 3) := by decide +kernel
theorem dL_reset_7 : decode cL_reset 7 = .ok (.i2l, 1) := by decide +kernel
theorem dL_reset_8 : decode cL_reset 8 = .ok (.lastore, 1) := by decide +kernel
theorem dL_reset_9 : decode cL_reset 9 = .ok (.goto 6, 3) := by decide +kernel
theorem dL_reset_12 : decode cL_reset 12 = .ok (.astore_n 3, 1) := by decide +kernel
theorem dL_reset_13 : decode cL_reset 13 = .ok (.iconst 1, 1) := by decide +kernel
theorem dL_reset_14 : decode cL_reset 14 = .ok (.ireturn, 1) := by decide +kernel
theorem dL_reset_15 : decode cL_reset 15 = .ok (.iconst 0, 1) := by decide +kernel
theorem dL_reset_16 : decode cL_reset 16 = .ok (.ireturn, 1) := by decide +kernel
theorem dL_merge_0 : decode cL_merge 0 = .ok (.aload_n 2, 1) := by decide +kernel
theorem dL_merge_1 : decode cL_merge 1 = .ok (.iconst 0, 1) := by decide +kernel
theorem dL_merge_2 : decode cL_merge 2 = .ok (.aload_n 0, 1) := by decide +kernel
theorem dL_merge_3 : decode cL_merge 3 = .ok (.iload_n 1, 1) := by decide +kernel
theorem dL_merge_4 : decode cL_merge 4 = .ok (.invokevirtual 44, 3) := by decide +kernel
theorem dL_merge_7 : decode cL_merge 7 = .ok (.i2l, 1) := by decide +kernel
theorem dL_merge_8 : decode cL_merge 8 = .ok (.lastore, 1) := by decide +kernel
theorem dL_merge_9 : decode cL_merge 9 = .ok (.goto 15, 3) := by decide +kernel
theorem dL_merge_12 : decode cL_merge 12 = .ok (.astore_n 3, 1) := by decide +kernel
theorem dL_merge_13 : decode cL_merge 13 = .ok (.iconst 1, 1) := by decide +kernel
theorem dL_merge_14 : decode cL_merge 14 = .ok (.ireturn, 1) := by decide +kernel
theorem dL_merge_15 : decode cL_merge 15 = .ok (.astore_n 3, 1) := by decide +kernel
theorem dL_merge_16 : decode cL_merge 16 = .ok (.iconst 2, 1) := by decide +kernel
theorem dL_merge_17 : decode cL_merge 17 = .ok (.ireturn, 1) := by decide +kernel
theorem dL_merge_18 : decode cL_merge 18 = .ok (.astore_n 3, 1) := by decide +kernel
theorem dL_merge_19 : decode cL_merge 19 = .ok (.iconst 3, 1) := by decide +kernel
theorem dL_merge_20 : decode cL_merge 20 = .ok (.ireturn, 1) := by decide +kernel
theorem dL_merge_21 : decode cL_merge 21 = .ok (.astore_n 3, 1) := by decide +kernel
theorem dL_merge_22 : decode cL_merge 22 = .ok (.iconst 4, 1) := by decide +kernel
theorem dL_merge_23 : decode cL_merge 23 = .ok (.ireturn, 1) := by decide +kernel
theorem dL_merge_24 : decode cL_merge 24 = .ok (.iconst 0, 1) := by decide +kernel
theorem dL_merge_25 : decode cL_merge 25 = .ok (.ireturn, 1) := by decide +kernel
theorem dL_putOnto_0 : decode cL_putOnto 0 = .ok (.aload_n 2, 1) := by decide +kernel
theorem dL_putOnto_1 : decode cL_putOnto 1 = .ok (.iconst 0, 1) := by decide +kernel
theorem dL_putOnto_2 : decode cL_putOnto 2 = .ok (.aload_n 0, 1) := by decide +kernel
theorem dL_putOnto_3 : decode cL_putOnto 3 = .ok (.iload_n 1, 1) := by decide +kernel
theorem dL_putOnto_4 : decode cL_putOnto 4 = .ok (.invokevirtual 49, 3) := by decide +kernel
theorem dL_putOnto_7 : decode cL_putOnto 7 = .ok (.i2l, 1) := by decide +kernel
theorem dL_putOnto_8 : decode cL_putOnto 8 = .ok (.lastore, 1) := by decide +kernel
theorem dL_putOnto_9 : decode cL_putOnto 9 = .ok (.goto 15, 3) := by decide +kernel
theorem dL_putOnto_12 : decode cL_putOnto 12 = .ok (.astore_n 3, 1) := by decide +kernel
theorem dL_putOnto_13 : decode cL_putOnto 13 = .ok (.iconst 1, 1) := by decide +kernel
theorem dL_putOnto_14 : decode cL_putOnto 14 = .ok (.ireturn, 1) := by decide +kernel
theorem dL_putOnto_15 : decode cL_putOnto 15 = .ok (.astore_n 3, 1) := by decide +kernel
theorem dL_putOnto_16 : decode cL_putOnto 16 = .ok (.iconst 2, 1) := by decide +kernel
theorem dL_putOnto_17 : decode cL_putOnto 17 = .ok (.ireturn, 1) := by decide +kernel
theorem dL_putOnto_18 : decode cL_putOnto 18 = .ok (.astore_n 3, 1) := by decide +kernel
theorem dL_putOnto_19 : decode cL_putOnto 19 = .ok (.iconst 3, 1) := by decide +kernel
theorem dL_putOnto_20 : decode cL_putOnto 20 = .ok (.ireturn, 1) := by decide +kernel
theorem dL_putOnto_21 : decode cL_putOnto 21 = .ok (.astore_n 3, 1) := by decide +kernel
theorem dL_putOnto_22 : decode cL_putOnto 22 = .ok (.iconst 4, 1) := by decide +kernel
theorem dL_putOnto_23 : decode cL_putOnto 23 = .ok (.ireturn, 1) := by decide +kernel
theorem dL_putOnto_24 : decode cL_putOnto 24 = .ok (.iconst 0, 1) := by decide +kernel
theorem dL_putOnto_25 : decode cL_putOnto 25 = .ok (.ireturn, 1) := by decide +kernel
theorem dL_head_0 : decode cL_head 0 = .ok (.aload_n 2, 1) := by decide +kernel
theorem dL_head_1 : decode cL_head 1 = .ok (.iconst 0, 1) := by decide +kernel
theorem dL_head_2 : decode cL_head 2 = .ok (.aload_n 0, 1) := by decide +kernel
theorem dL_head_3 : decode cL_head 3 = .ok (.iload_n 1, 1) := by decide +kernel
theorem dL_head_4 : decode cL_head 4 = .ok (.invokevirtual 52, 3) := by decide +kernel
theorem dL_head_7 : decode cL_head 7 = .ok (.i2l, 1) := by decide +kernel
theorem dL_head_8 : decode cL_head 8 = .ok (.lastore, 1) := by decide +kernel
theorem dL_head_9 : decode cL_head 9 = .ok (.goto 9, 3) := by decide +kernel
theorem dL_head_12 : decode cL_head 12 = .ok (.astore_n 3, 1) := by decide +kernel
theorem dL_head_13 : decode cL_head 13 = .ok (.iconst 1, 1) := by decide +kernel
theorem dL_head_14 : decode cL_head 14 = .ok (.ireturn, 1) := by decide +kernel
theorem dL_head_15 : decode cL_head 15 = .ok (.astore_n 3, 1) := by decide +kernel
theorem dL_head_16 : decode cL_head 16 = .ok (.iconst 2, 1) := by decide +kernel
theorem dL_head_17 : decode cL_head 17 = .ok (.ireturn, 1) := by decide +kernel
theorem dL_head_18 : decode cL_head 18 = .ok (.iconst 0, 1) := by decide +kernel
theorem dL_head_19 : decode cL_head 19 = .ok (.ireturn, 1) := by decide +kernel
theorem dL_contentIn_0 : decode cL_contentIn 0 = .ok (.aload_n 3, 1) := by decide +kernel
theorem dL_contentIn_1 : decode cL_contentIn 1 = .ok (.iconst 0, 1) := by decide +kernel
theorem dL_contentIn_2 : decode cL_contentIn 2 = .ok (.aload_n 0, 1) := by decide +kernel
theorem dL_contentIn_3 : decode cL_contentIn 3 = .ok (.iload_n 1, 1) := by decide +kernel
theorem dL_contentIn_4 : decode cL_contentIn 4 = .ok (.iload_n 2, 1) := by decide +kernel
theorem dL_contentIn_5 : decode cL_contentIn 5 = .ok (.invokevirtual 55, 3) := by decide +kernel
theorem dL_contentIn_8 : decode cL_contentIn 8 = .ok (.i2l, 1) := by decide +kernel
theorem dL_contentIn_9 : decode cL_contentIn 9 = .ok (.lastore, 1) := by decide +kernel
theorem dL_contentIn_10 : decode cL_contentIn 10 = .ok (.goto 11, 3) := by decide +kernel
theorem dL_contentIn_13 : decode cL_contentIn 13 = .ok (.astore 4, 2) := by decide +kernel
theorem dL_contentIn_15 : decode cL_contentIn 15 = .ok (.iconst 1, 1) := by decide +kernel
theorem dL_contentIn_16 : decode cL_contentIn 16 = .ok (.ireturn, 1) := by decide +kernel
theorem dL_contentIn_17 : decode cL_contentIn 17 = .ok (.astore 4, 2) := by decide +kernel
theorem dL_contentIn_19 : decode cL_contentIn 19 = .ok (.iconst 2, 1) := by decide +kernel
theorem dL_contentIn_20 : decode cL_contentIn 20 = .ok (.ireturn, 1) := by decide +kernel
theorem dL_contentIn_21 : decode cL_contentIn 21 = .ok (.iconst 0, 1) := by decide +kernel
theorem dL_contentIn_22 : decode cL_contentIn 22 = .ok (.ireturn, 1) := by decide +kernel
theorem dL_parentOf_0 : decode cL_parentOf 0 = .ok (.aload_n 3, 1) := by decide +kernel
theorem dL_parentOf_1 : decode cL_parentOf 1 = .ok (.iconst 0, 1) := by decide +kernel
theorem dL_parentOf_2 : decode cL_parentOf 2 = .ok (.aload_n 0, 1) := by decide +kernel
theorem dL_parentOf_3 : decode cL_parentOf 3 = .ok (.iload_n 1, 1) := by decide +kernel
theorem dL_parentOf_4 : decode cL_parentOf 4 = .ok (.iload_n 2, 1) := by decide +kernel
theorem dL_parentOf_5 : decode cL_parentOf 5 = .ok (.invokevirtual 58, 3) := by decide +kernel
theorem dL_parentOf_8 : decode cL_parentOf 8 = .ok (.i2l, 1) := by decide +kernel
theorem dL_parentOf_9 : decode cL_parentOf 9 = .ok (.lastore, 1) := by decide +kernel
theorem dL_parentOf_10 : decode cL_parentOf 10 = .ok (.goto 11, 3) := by decide +kernel
theorem dL_parentOf_13 : decode cL_parentOf 13 = .ok (.astore 4, 2) := by decide +kernel
theorem dL_parentOf_15 : decode cL_parentOf 15 = .ok (.iconst 1, 1) := by decide +kernel
theorem dL_parentOf_16 : decode cL_parentOf 16 = .ok (.ireturn, 1) := by decide +kernel
theorem dL_parentOf_17 : decode cL_parentOf 17 = .ok (.astore 4, 2) := by decide +kernel
theorem dL_parentOf_19 : decode cL_parentOf 19 = .ok (.iconst 2, 1) := by decide +kernel
theorem dL_parentOf_20 : decode cL_parentOf 20 = .ok (.ireturn, 1) := by decide +kernel
theorem dL_parentOf_21 : decode cL_parentOf 21 = .ok (.iconst 0, 1) := by decide +kernel
theorem dL_parentOf_22 : decode cL_parentOf 22 = .ok (.ireturn, 1) := by decide +kernel
theorem dL_generation_0 : decode cL_generation 0 = .ok (.aload_n 2, 1) := by decide +kernel
theorem dL_generation_1 : decode cL_generation 1 = .ok (.iconst 0, 1) := by decide +kernel
theorem dL_generation_2 : decode cL_generation 2 = .ok (.aload_n 0, 1) := by decide +kernel
theorem dL_generation_3 : decode cL_generation 3 = .ok (.iload_n 1, 1) := by decide +kernel
theorem dL_generation_4 : decode cL_generation 4 = .ok (.invokevirtual 61, 3) := by decide +kernel
theorem dL_generation_7 : decode cL_generation 7 = .ok (.i2l, 1) := by decide +kernel
theorem dL_generation_8 : decode cL_generation 8 = .ok (.lastore, 1) := by decide +kernel
theorem dL_generation_9 : decode cL_generation 9 = .ok (.goto 6, 3) := by decide +kernel
theorem dL_generation_12 : decode cL_generation 12 = .ok (.astore_n 3, 1) := by decide +kernel
theorem dL_generation_13 : decode cL_generation 13 = .ok (.iconst 1, 1) := by decide +kernel
theorem dL_generation_14 : decode cL_generation 14 = .ok (.ireturn, 1) := by decide +kernel
theorem dL_generation_15 : decode cL_generation 15 = .ok (.iconst 0, 1) := by decide +kernel
theorem dL_generation_16 : decode cL_generation 16 = .ok (.ireturn, 1) := by decide +kernel
theorem dL_isAncestor_0 : decode cL_isAncestor 0 = .ok (.aload_n 3, 1) := by decide +kernel
theorem dL_isAncestor_1 : decode cL_isAncestor 1 = .ok (.iconst 0, 1) := by decide +kernel
theorem dL_isAncestor_2 : decode cL_isAncestor 2 = .ok (.aload_n 0, 1) := by decide +kernel
theorem dL_isAncestor_3 : decode cL_isAncestor 3 = .ok (.iload_n 1, 1) := by decide +kernel
theorem dL_isAncestor_4 : decode cL_isAncestor 4 = .ok (.iload_n 2, 1) := by decide +kernel
theorem dL_isAncestor_5 : decode cL_isAncestor 5 = .ok (.invokevirtual 64, 3) := by decide +kernel
theorem dL_isAncestor_8 : decode cL_isAncestor 8 = .ok (.ifCond .eq 7, 3) := by decide +kernel
theorem dL_isAncestor_11 : decode cL_isAncestor 11 = .ok (.lconst 1, 1) := by decide +kernel
theorem dL_isAncestor_12 : decode cL_isAncestor 12 = .ok (.goto 4, 3) := by decide +kernel
theorem dL_isAncestor_15 : decode cL_isAncestor 15 = .ok (.lconst 0, 1) := by decide +kernel
theorem dL_isAncestor_16 : decode cL_isAncestor 16 = .ok (.lastore, 1) := by decide +kernel
theorem dL_isAncestor_17 : decode cL_isAncestor 17 = .ok (.goto 7, 3) := by decide +kernel
theorem dL_isAncestor_20 : decode cL_isAncestor 20 = .ok (.astore 4, 2) := by decide +kernel
theorem dL_isAncestor_22 : decode cL_isAncestor 22 = .ok (.iconst 1, 1) := by decide +kernel
theorem dL_isAncestor_23 : decode cL_isAncestor 23 = .ok (.ireturn, 1) := by decide +kernel
theorem dL_isAncestor_24 : decode cL_isAncestor 24 = .ok (.iconst 0, 1) := by decide +kernel
theorem dL_isAncestor_25 : decode cL_isAncestor 25 = .ok (.ireturn, 1) := by decide +kernel
theorem dL_isAncestorByWalking_0 : decode cL_isAncestorByWalking 0 = .ok (.aload_n 3, 1) := by decide +kernel
theorem dL_isAncestorByWalking_1 : decode cL_isAncestorByWalking 1 = .ok (.iconst 0, 1) := by decide +kernel
theorem dL_isAncestorByWalking_2 : decode cL_isAncestorByWalking 2 = .ok (.aload_n 0, 1) := by decide +kernel
theorem dL_isAncestorByWalking_3 : decode cL_isAncestorByWalking 3 = .ok (.iload_n 1, 1) := by decide +kernel
theorem dL_isAncestorByWalking_4 : decode cL_isAncestorByWalking 4 = .ok (.iload_n 2, 1) := by decide +kernel
theorem dL_isAncestorByWalking_5 : decode cL_isAncestorByWalking 5 = .ok (.invokevirtual 68, 3) := by decide +kernel
theorem dL_isAncestorByWalking_8 : decode cL_isAncestorByWalking 8 = .ok (.ifCond .eq 7, 3) := by decide +kernel
theorem dL_isAncestorByWalking_11 : decode cL_isAncestorByWalking 11 = .ok (.lconst 1, 1) := by decide +kernel
theorem dL_isAncestorByWalking_12 : decode cL_isAncestorByWalking 12 = .ok (.goto 4, 3) := by decide +kernel
theorem dL_isAncestorByWalking_15 : decode cL_isAncestorByWalking 15 = .ok (.lconst 0, 1) := by decide +kernel
theorem dL_isAncestorByWalking_16 : decode cL_isAncestorByWalking 16 = .ok (.lastore, 1) := by decide +kernel
theorem dL_isAncestorByWalking_17 : decode cL_isAncestorByWalking 17 = .ok (.goto 7, 3) := by decide +kernel
theorem dL_isAncestorByWalking_20 : decode cL_isAncestorByWalking 20 = .ok (.astore 4, 2) := by decide +kernel
theorem dL_isAncestorByWalking_22 : decode cL_isAncestorByWalking 22 = .ok (.iconst 1, 1) := by decide +kernel
theorem dL_isAncestorByWalking_23 : decode cL_isAncestorByWalking 23 = .ok (.ireturn, 1) := by decide +kernel
theorem dL_isAncestorByWalking_24 : decode cL_isAncestorByWalking 24 = .ok (.iconst 0, 1) := by decide +kernel
theorem dL_isAncestorByWalking_25 : decode cL_isAncestorByWalking 25 = .ok (.ireturn, 1) := by decide +kernel
theorem dL_base_0 : decode cL_base 0 = .ok (.aload_n 3, 1) := by decide +kernel
theorem dL_base_1 : decode cL_base 1 = .ok (.iconst 0, 1) := by decide +kernel
theorem dL_base_2 : decode cL_base 2 = .ok (.aload_n 0, 1) := by decide +kernel
theorem dL_base_3 : decode cL_base 3 = .ok (.iload_n 1, 1) := by decide +kernel
theorem dL_base_4 : decode cL_base 4 = .ok (.iload_n 2, 1) := by decide +kernel
theorem dL_base_5 : decode cL_base 5 = .ok (.invokevirtual 71, 3) := by decide +kernel
theorem dL_base_8 : decode cL_base 8 = .ok (.i2l, 1) := by decide +kernel
theorem dL_base_9 : decode cL_base 9 = .ok (.lastore, 1) := by decide +kernel
theorem dL_base_10 : decode cL_base 10 = .ok (.goto 7, 3) := by decide +kernel
theorem dL_base_13 : decode cL_base 13 = .ok (.astore 4, 2) := by decide +kernel
theorem dL_base_15 : decode cL_base 15 = .ok (.iconst 1, 1) := by decide +kernel
theorem dL_base_16 : decode cL_base 16 = .ok (.ireturn, 1) := by decide +kernel
theorem dL_base_17 : decode cL_base 17 = .ok (.iconst 0, 1) := by decide +kernel
theorem dL_base_18 : decode cL_base 18 = .ok (.ireturn, 1) := by decide +kernel
theorem dL_baseByWalking_0 : decode cL_baseByWalking 0 = .ok (.aload_n 3, 1) := by decide +kernel
theorem dL_baseByWalking_1 : decode cL_baseByWalking 1 = .ok (.iconst 0, 1) := by decide +kernel
theorem dL_baseByWalking_2 : decode cL_baseByWalking 2 = .ok (.aload_n 0, 1) := by decide +kernel
theorem dL_baseByWalking_3 : decode cL_baseByWalking 3 = .ok (.iload_n 1, 1) := by decide +kernel
theorem dL_baseByWalking_4 : decode cL_baseByWalking 4 = .ok (.iload_n 2, 1) := by decide +kernel
theorem dL_baseByWalking_5 : decode cL_baseByWalking 5 = .ok (.invokevirtual 74, 3) := by decide +kernel
theorem dL_baseByWalking_8 : decode cL_baseByWalking 8 = .ok (.i2l, 1) := by decide +kernel
theorem dL_baseByWalking_9 : decode cL_baseByWalking 9 = .ok (.lastore, 1) := by decide +kernel
theorem dL_baseByWalking_10 : decode cL_baseByWalking 10 = .ok (.goto 7, 3) := by decide +kernel
theorem dL_baseByWalking_13 : decode cL_baseByWalking 13 = .ok (.astore 4, 2) := by decide +kernel
theorem dL_baseByWalking_15 : decode cL_baseByWalking 15 = .ok (.iconst 1, 1) := by decide +kernel
theorem dL_baseByWalking_16 : decode cL_baseByWalking 16 = .ok (.ireturn, 1) := by decide +kernel
theorem dL_baseByWalking_17 : decode cL_baseByWalking 17 = .ok (.iconst 0, 1) := by decide +kernel
theorem dL_baseByWalking_18 : decode cL_baseByWalking 18 = .ok (.ireturn, 1) := by decide +kernel
theorem dL_bases_0 : decode cL_bases 0 = .ok (.aload_n 3, 1) := by decide +kernel
theorem dL_bases_1 : decode cL_bases 1 = .ok (.iconst 0, 1) := by decide +kernel
theorem dL_bases_2 : decode cL_bases 2 = .ok (.aload_n 0, 1) := by decide +kernel
theorem dL_bases_3 : decode cL_bases 3 = .ok (.iload_n 1, 1) := by decide +kernel
theorem dL_bases_4 : decode cL_bases 4 = .ok (.iload_n 2, 1) := by decide +kernel
theorem dL_bases_5 : decode cL_bases 5 = .ok (.invokevirtual 77, 3) := by decide +kernel
theorem dL_bases_8 : decode cL_bases 8 = .ok (.i2l, 1) := by decide +kernel
theorem dL_bases_9 : decode cL_bases 9 = .ok (.lastore, 1) := by decide +kernel
theorem dL_bases_10 : decode cL_bases 10 = .ok (.goto 7, 3) := by decide +kernel
theorem dL_bases_13 : decode cL_bases 13 = .ok (.astore 4, 2) := by decide +kernel
theorem dL_bases_15 : decode cL_bases 15 = .ok (.iconst 1, 1) := by decide +kernel
theorem dL_bases_16 : decode cL_bases 16 = .ok (.ireturn, 1) := by decide +kernel
theorem dL_bases_17 : decode cL_bases 17 = .ok (.iconst 0, 1) := by decide +kernel
theorem dL_bases_18 : decode cL_bases 18 = .ok (.ireturn, 1) := by decide +kernel
theorem dL_movedTo_0 : decode cL_movedTo 0 = .ok (.aload 4, 2) := by decide +kernel
theorem dL_movedTo_2 : decode cL_movedTo 2 = .ok (.iconst 0, 1) := by decide +kernel
theorem dL_movedTo_3 : decode cL_movedTo 3 = .ok (.aload_n 0, 1) := by decide +kernel
theorem dL_movedTo_4 : decode cL_movedTo 4 = .ok (.iload_n 1, 1) := by decide +kernel
theorem dL_movedTo_5 : decode cL_movedTo 5 = .ok (.iload_n 2, 1) := by decide +kernel
theorem dL_movedTo_6 : decode cL_movedTo 6 = .ok (.iload_n 3, 1) := by decide +kernel
theorem dL_movedTo_7 : decode cL_movedTo 7 = .ok (.invokevirtual 80, 3) := by decide +kernel
theorem dL_movedTo_10 : decode cL_movedTo 10 = .ok (.i2l, 1) := by decide +kernel
theorem dL_movedTo_11 : decode cL_movedTo 11 = .ok (.lastore, 1) := by decide +kernel
theorem dL_movedTo_12 : decode cL_movedTo 12 = .ok (.goto 11, 3) := by decide +kernel
theorem dL_movedTo_15 : decode cL_movedTo 15 = .ok (.astore 5, 2) := by decide +kernel
theorem dL_movedTo_17 : decode cL_movedTo 17 = .ok (.iconst 1, 1) := by decide +kernel
theorem dL_movedTo_18 : decode cL_movedTo 18 = .ok (.ireturn, 1) := by decide +kernel
theorem dL_movedTo_19 : decode cL_movedTo 19 = .ok (.astore 5, 2) := by decide +kernel
theorem dL_movedTo_21 : decode cL_movedTo 21 = .ok (.iconst 2, 1) := by decide +kernel
theorem dL_movedTo_22 : decode cL_movedTo 22 = .ok (.ireturn, 1) := by decide +kernel
theorem dL_movedTo_23 : decode cL_movedTo 23 = .ok (.iconst 0, 1) := by decide +kernel
theorem dL_movedTo_24 : decode cL_movedTo 24 = .ok (.ireturn, 1) := by decide +kernel
theorem dL_conflicts_0 : decode cL_conflicts 0 = .ok (.aload_n 3, 1) := by decide +kernel
theorem dL_conflicts_1 : decode cL_conflicts 1 = .ok (.iconst 0, 1) := by decide +kernel
theorem dL_conflicts_2 : decode cL_conflicts 2 = .ok (.aload_n 0, 1) := by decide +kernel
theorem dL_conflicts_3 : decode cL_conflicts 3 = .ok (.iload_n 1, 1) := by decide +kernel
theorem dL_conflicts_4 : decode cL_conflicts 4 = .ok (.iload_n 2, 1) := by decide +kernel
theorem dL_conflicts_5 : decode cL_conflicts 5 = .ok (.invokevirtual 84, 3) := by decide +kernel
theorem dL_conflicts_8 : decode cL_conflicts 8 = .ok (.i2l, 1) := by decide +kernel
theorem dL_conflicts_9 : decode cL_conflicts 9 = .ok (.lastore, 1) := by decide +kernel
theorem dL_conflicts_10 : decode cL_conflicts 10 = .ok (.goto 7, 3) := by decide +kernel
theorem dL_conflicts_13 : decode cL_conflicts 13 = .ok (.astore 4, 2) := by decide +kernel
theorem dL_conflicts_15 : decode cL_conflicts 15 = .ok (.iconst 1, 1) := by decide +kernel
theorem dL_conflicts_16 : decode cL_conflicts 16 = .ok (.ireturn, 1) := by decide +kernel
theorem dL_conflicts_17 : decode cL_conflicts 17 = .ok (.iconst 0, 1) := by decide +kernel
theorem dL_conflicts_18 : decode cL_conflicts 18 = .ok (.ireturn, 1) := by decide +kernel
theorem dL_lastChange_0 : decode cL_lastChange 0 = .ok (.aload_n 2, 1) := by decide +kernel
theorem dL_lastChange_1 : decode cL_lastChange 1 = .ok (.iconst 0, 1) := by decide +kernel
theorem dL_lastChange_2 : decode cL_lastChange 2 = .ok (.aload_n 0, 1) := by decide +kernel
theorem dL_lastChange_3 : decode cL_lastChange 3 = .ok (.iload_n 1, 1) := by decide +kernel
theorem dL_lastChange_4 : decode cL_lastChange 4 = .ok (.invokevirtual 87, 3) := by decide +kernel
theorem dL_lastChange_7 : decode cL_lastChange 7 = .ok (.i2l, 1) := by decide +kernel
theorem dL_lastChange_8 : decode cL_lastChange 8 = .ok (.lastore, 1) := by decide +kernel
theorem dL_lastChange_9 : decode cL_lastChange 9 = .ok (.goto 9, 3) := by decide +kernel
theorem dL_lastChange_12 : decode cL_lastChange 12 = .ok (.astore_n 3, 1) := by decide +kernel
theorem dL_lastChange_13 : decode cL_lastChange 13 = .ok (.iconst 1, 1) := by decide +kernel
theorem dL_lastChange_14 : decode cL_lastChange 14 = .ok (.ireturn, 1) := by decide +kernel
theorem dL_lastChange_15 : decode cL_lastChange 15 = .ok (.astore_n 3, 1) := by decide +kernel
theorem dL_lastChange_16 : decode cL_lastChange 16 = .ok (.iconst 2, 1) := by decide +kernel
theorem dL_lastChange_17 : decode cL_lastChange 17 = .ok (.ireturn, 1) := by decide +kernel
theorem dL_lastChange_18 : decode cL_lastChange 18 = .ok (.iconst 0, 1) := by decide +kernel
theorem dL_lastChange_19 : decode cL_lastChange 19 = .ok (.ireturn, 1) := by decide +kernel
theorem dL_depthOf_0 : decode cL_depthOf 0 = .ok (.aload_n 2, 1) := by decide +kernel
theorem dL_depthOf_1 : decode cL_depthOf 1 = .ok (.iconst 0, 1) := by decide +kernel
theorem dL_depthOf_2 : decode cL_depthOf 2 = .ok (.aload_n 0, 1) := by decide +kernel
theorem dL_depthOf_3 : decode cL_depthOf 3 = .ok (.iload_n 1, 1) := by decide +kernel
theorem dL_depthOf_4 : decode cL_depthOf 4 = .ok (.invokevirtual 90, 3) := by decide +kernel
theorem dL_depthOf_7 : decode cL_depthOf 7 = .ok (.i2l, 1) := by decide +kernel
theorem dL_depthOf_8 : decode cL_depthOf 8 = .ok (.lastore, 1) := by decide +kernel
theorem dL_depthOf_9 : decode cL_depthOf 9 = .ok (.goto 6, 3) := by decide +kernel
theorem dL_depthOf_12 : decode cL_depthOf 12 = .ok (.astore_n 3, 1) := by decide +kernel
theorem dL_depthOf_13 : decode cL_depthOf 13 = .ok (.iconst 1, 1) := by decide +kernel
theorem dL_depthOf_14 : decode cL_depthOf 14 = .ok (.ireturn, 1) := by decide +kernel
theorem dL_depthOf_15 : decode cL_depthOf 15 = .ok (.iconst 0, 1) := by decide +kernel
theorem dL_depthOf_16 : decode cL_depthOf 16 = .ok (.ireturn, 1) := by decide +kernel
theorem dL_packedFrom_0 : decode cL_packedFrom 0 = .ok (.aload_n 2, 1) := by decide +kernel
theorem dL_packedFrom_1 : decode cL_packedFrom 1 = .ok (.iconst 0, 1) := by decide +kernel
theorem dL_packedFrom_2 : decode cL_packedFrom 2 = .ok (.aload_n 0, 1) := by decide +kernel
theorem dL_packedFrom_3 : decode cL_packedFrom 3 = .ok (.iload_n 1, 1) := by decide +kernel
theorem dL_packedFrom_4 : decode cL_packedFrom 4 = .ok (.invokevirtual 93, 3) := by decide +kernel
theorem dL_packedFrom_7 : decode cL_packedFrom 7 = .ok (.i2l, 1) := by decide +kernel
theorem dL_packedFrom_8 : decode cL_packedFrom 8 = .ok (.lastore, 1) := by decide +kernel
theorem dL_packedFrom_9 : decode cL_packedFrom 9 = .ok (.goto 6, 3) := by decide +kernel
theorem dL_packedFrom_12 : decode cL_packedFrom 12 = .ok (.astore_n 3, 1) := by decide +kernel
theorem dL_packedFrom_13 : decode cL_packedFrom 13 = .ok (.iconst 1, 1) := by decide +kernel
theorem dL_packedFrom_14 : decode cL_packedFrom 14 = .ok (.ireturn, 1) := by decide +kernel
theorem dL_packedFrom_15 : decode cL_packedFrom 15 = .ok (.iconst 0, 1) := by decide +kernel
theorem dL_packedFrom_16 : decode cL_packedFrom 16 = .ok (.ireturn, 1) := by decide +kernel
theorem dL_packShare_0 : decode cL_packShare 0 = .ok (.aload_n 1, 1) := by decide +kernel
theorem dL_packShare_1 : decode cL_packShare 1 = .ok (.iconst 0, 1) := by decide +kernel
theorem dL_packShare_2 : decode cL_packShare 2 = .ok (.aload_n 0, 1) := by decide +kernel
theorem dL_packShare_3 : decode cL_packShare 3 = .ok (.invokevirtual 96, 3) := by decide +kernel
theorem dL_packShare_6 : decode cL_packShare 6 = .ok (.f2d, 1) := by decide +kernel
theorem dL_packShare_7 : decode cL_packShare 7 = .ok (.dastore, 1) := by decide +kernel
theorem dL_packShare_8 : decode cL_packShare 8 = .ok (.goto 6, 3) := by decide +kernel
theorem dL_packShare_11 : decode cL_packShare 11 = .ok (.astore_n 2, 1) := by decide +kernel
theorem dL_packShare_12 : decode cL_packShare 12 = .ok (.iconst 1, 1) := by decide +kernel
theorem dL_packShare_13 : decode cL_packShare 13 = .ok (.ireturn, 1) := by decide +kernel
theorem dL_packShare_14 : decode cL_packShare 14 = .ok (.iconst 0, 1) := by decide +kernel
theorem dL_packShare_15 : decode cL_packShare 15 = .ok (.ireturn, 1) := by decide +kernel
theorem dL_law_0 : decode cL_law 0 = .ok (.new 8, 3) := by decide +kernel
theorem dL_law_3 : decode cL_law 3 = .ok (.dup, 1) := by decide +kernel
theorem dL_law_4 : decode cL_law 4 = .ok (.invokespecial 102, 3) := by decide +kernel
theorem dL_law_7 : decode cL_law 7 = .ok (.astore_n 1, 1) := by decide +kernel
theorem dL_law_8 : decode cL_law 8 = .ok (.new 103, 3) := by decide +kernel
theorem dL_law_11 : decode cL_law 11 = .ok (.dup, 1) := by decide +kernel
theorem dL_law_12 : decode cL_law 12 = .ok (.invokespecial 105, 3) := by decide +kernel
theorem dL_law_15 : decode cL_law 15 = .ok (.astore_n 2, 1) := by decide +kernel
theorem dL_law_16 : decode cL_law 16 = .ok (.iconst 1, 1) := by decide +kernel
theorem dL_law_17 : decode cL_law 17 = .ok (.newarray .long, 2) := by decide +kernel
theorem dL_law_19 : decode cL_law 19 = .ok (.astore_n 3, 1) := by decide +kernel
theorem dL_law_20 : decode cL_law 20 = .ok (.iconst 1, 1) := by decide +kernel
theorem dL_law_21 : decode cL_law 21 = .ok (.newarray .double, 2) := by decide +kernel
theorem dL_law_23 : decode cL_law 23 = .ok (.astore 4, 2) := by decide +kernel
theorem dL_law_25 : decode cL_law 25 = .ok (.iconst 0, 1) := by decide +kernel
theorem dL_law_26 : decode cL_law 26 = .ok (.istore 5, 2) := by decide +kernel
theorem dL_law_28 : decode cL_law 28 = .ok (.iload 5, 2) := by decide +kernel
theorem dL_law_30 : decode cL_law 30 = .ok (.aload_n 0, 1) := by decide +kernel
theorem dL_law_31 : decode cL_law 31 = .ok (.arraylength, 1) := by decide +kernel
theorem dL_law_32 : decode cL_law 32 = .ok (.iconst 4, 1) := by decide +kernel
theorem dL_law_33 : decode cL_law 33 = .ok (.isub, 1) := by decide +kernel
theorem dL_law_34 : decode cL_law 34 = .ok (.if_icmp .gt 1819, 3) := by decide +kernel
theorem dL_law_37 : decode cL_law 37 = .ok (.aload_n 0, 1) := by decide +kernel
theorem dL_law_38 : decode cL_law 38 = .ok (.iload 5, 2) := by decide +kernel
theorem dL_law_40 : decode cL_law 40 = .ok (.iaload, 1) := by decide +kernel
theorem dL_law_41 : decode cL_law 41 = .ok (.bipush 31, 2) := by decide +kernel
theorem dL_law_43 : decode cL_law 43 = .ok (.iand, 1) := by decide +kernel
theorem dL_law_44 : decode cL_law 44 = .ok (.tableswitch 1803 0 30 #[140, 208, 264, 332, 388, 401, 445, 501, 557, 613, 669, 725, 738, 794, 807, 875, 943, 999, 1074, 1149, 1217, 1285, 1353, 1433, 1501, 1557, 1570, 1626, 1682, 1696, 1762], 140) := by decide +kernel
theorem dL_law_184 : decode cL_law 184 = .ok (.aload_n 1, 1) := by decide +kernel
theorem dL_law_185 : decode cL_law 185 = .ok (.aload_n 0, 1) := by decide +kernel
theorem dL_law_186 : decode cL_law 186 = .ok (.iload 5, 2) := by decide +kernel
theorem dL_law_188 : decode cL_law 188 = .ok (.iconst 1, 1) := by decide +kernel
theorem dL_law_189 : decode cL_law 189 = .ok (.iadd, 1) := by decide +kernel
theorem dL_law_190 : decode cL_law 190 = .ok (.iaload, 1) := by decide +kernel
theorem dL_law_191 : decode cL_law 191 = .ok (.aload_n 0, 1) := by decide +kernel
theorem dL_law_192 : decode cL_law 192 = .ok (.iload 5, 2) := by decide +kernel
theorem dL_law_194 : decode cL_law 194 = .ok (.iconst 2, 1) := by decide +kernel
theorem dL_law_195 : decode cL_law 195 = .ok (.iadd, 1) := by decide +kernel
theorem dL_law_196 : decode cL_law 196 = .ok (.iaload, 1) := by decide +kernel
theorem dL_law_197 : decode cL_law 197 = .ok (.aload_n 3, 1) := by decide +kernel
theorem dL_law_198 : decode cL_law 198 = .ok (.invokestatic 106, 3) := by decide +kernel
theorem dL_law_201 : decode cL_law 201 = .ok (.istore 6, 2) := by decide +kernel
theorem dL_law_203 : decode cL_law 203 = .ok (.aload_n 2, 1) := by decide +kernel
theorem dL_law_204 : decode cL_law 204 = .ok (.aload_n 0, 1) := by decide +kernel
theorem dL_law_205 : decode cL_law 205 = .ok (.iload 5, 2) := by decide +kernel
theorem dL_law_207 : decode cL_law 207 = .ok (.iconst 1, 1) := by decide +kernel
theorem dL_law_208 : decode cL_law 208 = .ok (.iadd, 1) := by decide +kernel
theorem dL_law_209 : decode cL_law 209 = .ok (.iaload, 1) := by decide +kernel
theorem dL_law_210 : decode cL_law 210 = .ok (.aload_n 0, 1) := by decide +kernel
theorem dL_law_211 : decode cL_law 211 = .ok (.iload 5, 2) := by decide +kernel
theorem dL_law_213 : decode cL_law 213 = .ok (.iconst 2, 1) := by decide +kernel
theorem dL_law_214 : decode cL_law 214 = .ok (.iadd, 1) := by decide +kernel
theorem dL_law_215 : decode cL_law 215 = .ok (.iaload, 1) := by decide +kernel
theorem dL_law_216 : decode cL_law 216 = .ok (.invokevirtual 111, 3) := by decide +kernel
theorem dL_law_219 : decode cL_law 219 = .ok (.istore 7, 2) := by decide +kernel
theorem dL_law_221 : decode cL_law 221 = .ok (.aload_n 2, 1) := by decide +kernel
theorem dL_law_222 : decode cL_law 222 = .ok (.invokevirtual 112, 3) := by decide +kernel
theorem dL_law_225 : decode cL_law 225 = .ok (.iload 6, 2) := by decide +kernel
theorem dL_law_227 : decode cL_law 227 = .ok (.if_icmp .eq 5, 3) := by decide +kernel
theorem dL_law_230 : decode cL_law 230 = .ok (.iconst 0, 1) := by decide +kernel
theorem dL_law_231 : decode cL_law 231 = .ok (.ireturn, 1) := by decide +kernel
theorem dL_law_232 : decode cL_law 232 = .ok (.iload 6, 2) := by decide +kernel
theorem dL_law_234 : decode cL_law 234 = .ok (.ifCond .ne 15, 3) := by decide +kernel
theorem dL_law_237 : decode cL_law 237 = .ok (.aload_n 3, 1) := by decide +kernel
theorem dL_law_238 : decode cL_law 238 = .ok (.iconst 0, 1) := by decide +kernel
theorem dL_law_239 : decode cL_law 239 = .ok (.laload, 1) := by decide +kernel
theorem dL_law_240 : decode cL_law 240 = .ok (.iload 7, 2) := by decide +kernel
theorem dL_law_242 : decode cL_law 242 = .ok (.i2l, 1) := by decide +kernel
theorem dL_law_243 : decode cL_law 243 = .ok (.lcmp, 1) := by decide +kernel
theorem dL_law_244 : decode cL_law 244 = .ok (.ifCond .eq 5, 3) := by decide +kernel
theorem dL_law_247 : decode cL_law 247 = .ok (.iconst 0, 1) := by decide +kernel
theorem dL_law_248 : decode cL_law 248 = .ok (.ireturn, 1) := by decide +kernel
theorem dL_law_249 : decode cL_law 249 = .ok (.goto 1598, 3) := by decide +kernel
theorem dL_law_252 : decode cL_law 252 = .ok (.aload_n 1, 1) := by decide +kernel
theorem dL_law_253 : decode cL_law 253 = .ok (.aload_n 0, 1) := by decide +kernel
theorem dL_law_254 : decode cL_law 254 = .ok (.iload 5, 2) := by decide +kernel
theorem dL_law_256 : decode cL_law 256 = .ok (.iconst 1, 1) := by decide +kernel
theorem dL_law_257 : decode cL_law 257 = .ok (.iadd, 1) := by decide +kernel
theorem dL_law_258 : decode cL_law 258 = .ok (.iaload, 1) := by decide +kernel
theorem dL_law_259 : decode cL_law 259 = .ok (.aload_n 3, 1) := by decide +kernel
theorem dL_law_260 : decode cL_law 260 = .ok (.invokestatic 115, 3) := by decide +kernel
theorem dL_law_263 : decode cL_law 263 = .ok (.istore 6, 2) := by decide +kernel
theorem dL_law_265 : decode cL_law 265 = .ok (.aload_n 2, 1) := by decide +kernel
theorem dL_law_266 : decode cL_law 266 = .ok (.aload_n 0, 1) := by decide +kernel
theorem dL_law_267 : decode cL_law 267 = .ok (.iload 5, 2) := by decide +kernel
theorem dL_law_269 : decode cL_law 269 = .ok (.iconst 1, 1) := by decide +kernel
theorem dL_law_270 : decode cL_law 270 = .ok (.iadd, 1) := by decide +kernel
theorem dL_law_271 : decode cL_law 271 = .ok (.iaload, 1) := by decide +kernel
theorem dL_law_272 : decode cL_law 272 = .ok (.invokevirtual 118, 3) := by decide +kernel
theorem dL_law_275 : decode cL_law 275 = .ok (.istore 7, 2) := by decide +kernel
theorem dL_law_277 : decode cL_law 277 = .ok (.aload_n 2, 1) := by decide +kernel
theorem dL_law_278 : decode cL_law 278 = .ok (.invokevirtual 112, 3) := by decide +kernel
theorem dL_law_281 : decode cL_law 281 = .ok (.iload 6, 2) := by decide +kernel
theorem dL_law_283 : decode cL_law 283 = .ok (.if_icmp .eq 5, 3) := by decide +kernel
theorem dL_law_286 : decode cL_law 286 = .ok (.iconst 0, 1) := by decide +kernel
theorem dL_law_287 : decode cL_law 287 = .ok (.ireturn, 1) := by decide +kernel
theorem dL_law_288 : decode cL_law 288 = .ok (.iload 6, 2) := by decide +kernel
theorem dL_law_290 : decode cL_law 290 = .ok (.ifCond .ne 15, 3) := by decide +kernel
theorem dL_law_293 : decode cL_law 293 = .ok (.aload_n 3, 1) := by decide +kernel
theorem dL_law_294 : decode cL_law 294 = .ok (.iconst 0, 1) := by decide +kernel
theorem dL_law_295 : decode cL_law 295 = .ok (.laload, 1) := by decide +kernel
theorem dL_law_296 : decode cL_law 296 = .ok (.iload 7, 2) := by decide +kernel
theorem dL_law_298 : decode cL_law 298 = .ok (.i2l, 1) := by decide +kernel
theorem dL_law_299 : decode cL_law 299 = .ok (.lcmp, 1) := by decide +kernel
theorem dL_law_300 : decode cL_law 300 = .ok (.ifCond .eq 5, 3) := by decide +kernel
theorem dL_law_303 : decode cL_law 303 = .ok (.iconst 0, 1) := by decide +kernel
theorem dL_law_304 : decode cL_law 304 = .ok (.ireturn, 1) := by decide +kernel
theorem dL_law_305 : decode cL_law 305 = .ok (.goto 1542, 3) := by decide +kernel
theorem dL_law_308 : decode cL_law 308 = .ok (.aload_n 1, 1) := by decide +kernel
theorem dL_law_309 : decode cL_law 309 = .ok (.aload_n 0, 1) := by decide +kernel
theorem dL_law_310 : decode cL_law 310 = .ok (.iload 5, 2) := by decide +kernel
theorem dL_law_312 : decode cL_law 312 = .ok (.iconst 1, 1) := by decide +kernel
theorem dL_law_313 : decode cL_law 313 = .ok (.iadd, 1) := by decide +kernel
theorem dL_law_314 : decode cL_law 314 = .ok (.iaload, 1) := by decide +kernel
theorem dL_law_315 : decode cL_law 315 = .ok (.aload_n 0, 1) := by decide +kernel
theorem dL_law_316 : decode cL_law 316 = .ok (.iload 5, 2) := by decide +kernel
theorem dL_law_318 : decode cL_law 318 = .ok (.iconst 2, 1) := by decide +kernel
theorem dL_law_319 : decode cL_law 319 = .ok (.iadd, 1) := by decide +kernel
theorem dL_law_320 : decode cL_law 320 = .ok (.iaload, 1) := by decide +kernel
theorem dL_law_321 : decode cL_law 321 = .ok (.aload_n 3, 1) := by decide +kernel
theorem dL_law_322 : decode cL_law 322 = .ok (.invokestatic 119, 3) := by decide +kernel
theorem dL_law_325 : decode cL_law 325 = .ok (.istore 6, 2) := by decide +kernel
theorem dL_law_327 : decode cL_law 327 = .ok (.aload_n 2, 1) := by decide +kernel
theorem dL_law_328 : decode cL_law 328 = .ok (.aload_n 0, 1) := by decide +kernel
theorem dL_law_329 : decode cL_law 329 = .ok (.iload 5, 2) := by decide +kernel
theorem dL_law_331 : decode cL_law 331 = .ok (.iconst 1, 1) := by decide +kernel
theorem dL_law_332 : decode cL_law 332 = .ok (.iadd, 1) := by decide +kernel
theorem dL_law_333 : decode cL_law 333 = .ok (.iaload, 1) := by decide +kernel
theorem dL_law_334 : decode cL_law 334 = .ok (.aload_n 0, 1) := by decide +kernel
theorem dL_law_335 : decode cL_law 335 = .ok (.iload 5, 2) := by decide +kernel
theorem dL_law_337 : decode cL_law 337 = .ok (.iconst 2, 1) := by decide +kernel
theorem dL_law_338 : decode cL_law 338 = .ok (.iadd, 1) := by decide +kernel
theorem dL_law_339 : decode cL_law 339 = .ok (.iaload, 1) := by decide +kernel
theorem dL_law_340 : decode cL_law 340 = .ok (.invokevirtual 121, 3) := by decide +kernel
theorem dL_law_343 : decode cL_law 343 = .ok (.istore 7, 2) := by decide +kernel
theorem dL_law_345 : decode cL_law 345 = .ok (.aload_n 2, 1) := by decide +kernel
theorem dL_law_346 : decode cL_law 346 = .ok (.invokevirtual 112, 3) := by decide +kernel
theorem dL_law_349 : decode cL_law 349 = .ok (.iload 6, 2) := by decide +kernel
theorem dL_law_351 : decode cL_law 351 = .ok (.if_icmp .eq 5, 3) := by decide +kernel
theorem dL_law_354 : decode cL_law 354 = .ok (.iconst 0, 1) := by decide +kernel
theorem dL_law_355 : decode cL_law 355 = .ok (.ireturn, 1) := by decide +kernel
theorem dL_law_356 : decode cL_law 356 = .ok (.iload 6, 2) := by decide +kernel
theorem dL_law_358 : decode cL_law 358 = .ok (.ifCond .ne 15, 3) := by decide +kernel
theorem dL_law_361 : decode cL_law 361 = .ok (.aload_n 3, 1) := by decide +kernel
theorem dL_law_362 : decode cL_law 362 = .ok (.iconst 0, 1) := by decide +kernel
theorem dL_law_363 : decode cL_law 363 = .ok (.laload, 1) := by decide +kernel
theorem dL_law_364 : decode cL_law 364 = .ok (.iload 7, 2) := by decide +kernel
theorem dL_law_366 : decode cL_law 366 = .ok (.i2l, 1) := by decide +kernel
theorem dL_law_367 : decode cL_law 367 = .ok (.lcmp, 1) := by decide +kernel
theorem dL_law_368 : decode cL_law 368 = .ok (.ifCond .eq 5, 3) := by decide +kernel
theorem dL_law_371 : decode cL_law 371 = .ok (.iconst 0, 1) := by decide +kernel
theorem dL_law_372 : decode cL_law 372 = .ok (.ireturn, 1) := by decide +kernel
theorem dL_law_373 : decode cL_law 373 = .ok (.goto 1474, 3) := by decide +kernel
theorem dL_law_376 : decode cL_law 376 = .ok (.aload_n 1, 1) := by decide +kernel
theorem dL_law_377 : decode cL_law 377 = .ok (.aload_n 0, 1) := by decide +kernel
theorem dL_law_378 : decode cL_law 378 = .ok (.iload 5, 2) := by decide +kernel
theorem dL_law_380 : decode cL_law 380 = .ok (.iconst 1, 1) := by decide +kernel
theorem dL_law_381 : decode cL_law 381 = .ok (.iadd, 1) := by decide +kernel
theorem dL_law_382 : decode cL_law 382 = .ok (.iaload, 1) := by decide +kernel
theorem dL_law_383 : decode cL_law 383 = .ok (.aload_n 3, 1) := by decide +kernel
theorem dL_law_384 : decode cL_law 384 = .ok (.invokestatic 122, 3) := by decide +kernel
theorem dL_law_387 : decode cL_law 387 = .ok (.istore 6, 2) := by decide +kernel
theorem dL_law_389 : decode cL_law 389 = .ok (.aload_n 2, 1) := by decide +kernel
theorem dL_law_390 : decode cL_law 390 = .ok (.aload_n 0, 1) := by decide +kernel
theorem dL_law_391 : decode cL_law 391 = .ok (.iload 5, 2) := by decide +kernel
theorem dL_law_393 : decode cL_law 393 = .ok (.iconst 1, 1) := by decide +kernel
theorem dL_law_394 : decode cL_law 394 = .ok (.iadd, 1) := by decide +kernel
theorem dL_law_395 : decode cL_law 395 = .ok (.iaload, 1) := by decide +kernel
theorem dL_law_396 : decode cL_law 396 = .ok (.invokevirtual 124, 3) := by decide +kernel
theorem dL_law_399 : decode cL_law 399 = .ok (.istore 7, 2) := by decide +kernel
theorem dL_law_401 : decode cL_law 401 = .ok (.aload_n 2, 1) := by decide +kernel
theorem dL_law_402 : decode cL_law 402 = .ok (.invokevirtual 112, 3) := by decide +kernel
theorem dL_law_405 : decode cL_law 405 = .ok (.iload 6, 2) := by decide +kernel
theorem dL_law_407 : decode cL_law 407 = .ok (.if_icmp .eq 5, 3) := by decide +kernel
theorem dL_law_410 : decode cL_law 410 = .ok (.iconst 0, 1) := by decide +kernel
theorem dL_law_411 : decode cL_law 411 = .ok (.ireturn, 1) := by decide +kernel
theorem dL_law_412 : decode cL_law 412 = .ok (.iload 6, 2) := by decide +kernel
theorem dL_law_414 : decode cL_law 414 = .ok (.ifCond .ne 15, 3) := by decide +kernel
theorem dL_law_417 : decode cL_law 417 = .ok (.aload_n 3, 1) := by decide +kernel
theorem dL_law_418 : decode cL_law 418 = .ok (.iconst 0, 1) := by decide +kernel
theorem dL_law_419 : decode cL_law 419 = .ok (.laload, 1) := by decide +kernel
theorem dL_law_420 : decode cL_law 420 = .ok (.iload 7, 2) := by decide +kernel
theorem dL_law_422 : decode cL_law 422 = .ok (.i2l, 1) := by decide +kernel
theorem dL_law_423 : decode cL_law 423 = .ok (.lcmp, 1) := by decide +kernel
theorem dL_law_424 : decode cL_law 424 = .ok (.ifCond .eq 5, 3) := by decide +kernel
theorem dL_law_427 : decode cL_law 427 = .ok (.iconst 0, 1) := by decide +kernel
theorem dL_law_428 : decode cL_law 428 = .ok (.ireturn, 1) := by decide +kernel
theorem dL_law_429 : decode cL_law 429 = .ok (.goto 1418, 3) := by decide +kernel
theorem dL_law_432 : decode cL_law 432 = .ok (.aload_n 1, 1) := by decide +kernel
theorem dL_law_433 : decode cL_law 433 = .ok (.invokevirtual 125, 3) := by decide +kernel
theorem dL_law_436 : decode cL_law 436 = .ok (.aload_n 2, 1) := by decide +kernel
theorem dL_law_437 : decode cL_law 437 = .ok (.invokevirtual 128, 3) := by decide +kernel
theorem dL_law_440 : decode cL_law 440 = .ok (.if_icmp .eq 1407, 3) := by decide +kernel
theorem dL_law_443 : decode cL_law 443 = .ok (.iconst 0, 1) := by decide +kernel
theorem dL_law_444 : decode cL_law 444 = .ok (.ireturn, 1) := by decide +kernel
theorem dL_law_445 : decode cL_law 445 = .ok (.aload_n 1, 1) := by decide +kernel
theorem dL_law_446 : decode cL_law 446 = .ok (.aload_n 3, 1) := by decide +kernel
theorem dL_law_447 : decode cL_law 447 = .ok (.invokestatic 129, 3) := by decide +kernel
theorem dL_law_450 : decode cL_law 450 = .ok (.istore 6, 2) := by decide +kernel
theorem dL_law_452 : decode cL_law 452 = .ok (.aload_n 2, 1) := by decide +kernel
theorem dL_law_453 : decode cL_law 453 = .ok (.invokevirtual 132, 3) := by decide +kernel
theorem dL_law_456 : decode cL_law 456 = .ok (.istore 7, 2) := by decide +kernel
theorem dL_law_458 : decode cL_law 458 = .ok (.aload_n 2, 1) := by decide +kernel
theorem dL_law_459 : decode cL_law 459 = .ok (.invokevirtual 112, 3) := by decide +kernel
theorem dL_law_462 : decode cL_law 462 = .ok (.iload 6, 2) := by decide +kernel
theorem dL_law_464 : decode cL_law 464 = .ok (.if_icmp .eq 5, 3) := by decide +kernel
theorem dL_law_467 : decode cL_law 467 = .ok (.iconst 0, 1) := by decide +kernel
theorem dL_law_468 : decode cL_law 468 = .ok (.ireturn, 1) := by decide +kernel
theorem dL_law_469 : decode cL_law 469 = .ok (.iload 6, 2) := by decide +kernel
theorem dL_law_471 : decode cL_law 471 = .ok (.ifCond .ne 15, 3) := by decide +kernel
theorem dL_law_474 : decode cL_law 474 = .ok (.aload_n 3, 1) := by decide +kernel
theorem dL_law_475 : decode cL_law 475 = .ok (.iconst 0, 1) := by decide +kernel
theorem dL_law_476 : decode cL_law 476 = .ok (.laload, 1) := by decide +kernel
theorem dL_law_477 : decode cL_law 477 = .ok (.iload 7, 2) := by decide +kernel
theorem dL_law_479 : decode cL_law 479 = .ok (.i2l, 1) := by decide +kernel
theorem dL_law_480 : decode cL_law 480 = .ok (.lcmp, 1) := by decide +kernel
theorem dL_law_481 : decode cL_law 481 = .ok (.ifCond .eq 5, 3) := by decide +kernel
theorem dL_law_484 : decode cL_law 484 = .ok (.iconst 0, 1) := by decide +kernel
theorem dL_law_485 : decode cL_law 485 = .ok (.ireturn, 1) := by decide +kernel
theorem dL_law_486 : decode cL_law 486 = .ok (.goto 1361, 3) := by decide +kernel
theorem dL_law_489 : decode cL_law 489 = .ok (.aload_n 1, 1) := by decide +kernel
theorem dL_law_490 : decode cL_law 490 = .ok (.aload_n 0, 1) := by decide +kernel
theorem dL_law_491 : decode cL_law 491 = .ok (.iload 5, 2) := by decide +kernel
theorem dL_law_493 : decode cL_law 493 = .ok (.iconst 1, 1) := by decide +kernel
theorem dL_law_494 : decode cL_law 494 = .ok (.iadd, 1) := by decide +kernel
theorem dL_law_495 : decode cL_law 495 = .ok (.iaload, 1) := by decide +kernel
theorem dL_law_496 : decode cL_law 496 = .ok (.aload_n 3, 1) := by decide +kernel
theorem dL_law_497 : decode cL_law 497 = .ok (.invokestatic 133, 3) := by decide +kernel
theorem dL_law_500 : decode cL_law 500 = .ok (.istore 6, 2) := by decide +kernel
theorem dL_law_502 : decode cL_law 502 = .ok (.aload_n 2, 1) := by decide +kernel
theorem dL_law_503 : decode cL_law 503 = .ok (.aload_n 0, 1) := by decide +kernel
theorem dL_law_504 : decode cL_law 504 = .ok (.iload 5, 2) := by decide +kernel
theorem dL_law_506 : decode cL_law 506 = .ok (.iconst 1, 1) := by decide +kernel
theorem dL_law_507 : decode cL_law 507 = .ok (.iadd, 1) := by decide +kernel
theorem dL_law_508 : decode cL_law 508 = .ok (.iaload, 1) := by decide +kernel
theorem dL_law_509 : decode cL_law 509 = .ok (.invokevirtual 135, 3) := by decide +kernel
theorem dL_law_512 : decode cL_law 512 = .ok (.istore 7, 2) := by decide +kernel
theorem dL_law_514 : decode cL_law 514 = .ok (.aload_n 2, 1) := by decide +kernel
theorem dL_law_515 : decode cL_law 515 = .ok (.invokevirtual 112, 3) := by decide +kernel
theorem dL_law_518 : decode cL_law 518 = .ok (.iload 6, 2) := by decide +kernel
theorem dL_law_520 : decode cL_law 520 = .ok (.if_icmp .eq 5, 3) := by decide +kernel
theorem dL_law_523 : decode cL_law 523 = .ok (.iconst 0, 1) := by decide +kernel
theorem dL_law_524 : decode cL_law 524 = .ok (.ireturn, 1) := by decide +kernel
theorem dL_law_525 : decode cL_law 525 = .ok (.iload 6, 2) := by decide +kernel
theorem dL_law_527 : decode cL_law 527 = .ok (.ifCond .ne 15, 3) := by decide +kernel
theorem dL_law_530 : decode cL_law 530 = .ok (.aload_n 3, 1) := by decide +kernel
theorem dL_law_531 : decode cL_law 531 = .ok (.iconst 0, 1) := by decide +kernel
theorem dL_law_532 : decode cL_law 532 = .ok (.laload, 1) := by decide +kernel
theorem dL_law_533 : decode cL_law 533 = .ok (.iload 7, 2) := by decide +kernel
theorem dL_law_535 : decode cL_law 535 = .ok (.i2l, 1) := by decide +kernel
theorem dL_law_536 : decode cL_law 536 = .ok (.lcmp, 1) := by decide +kernel
theorem dL_law_537 : decode cL_law 537 = .ok (.ifCond .eq 5, 3) := by decide +kernel
theorem dL_law_540 : decode cL_law 540 = .ok (.iconst 0, 1) := by decide +kernel
theorem dL_law_541 : decode cL_law 541 = .ok (.ireturn, 1) := by decide +kernel
theorem dL_law_542 : decode cL_law 542 = .ok (.goto 1305, 3) := by decide +kernel
theorem dL_law_545 : decode cL_law 545 = .ok (.aload_n 1, 1) := by decide +kernel
theorem dL_law_546 : decode cL_law 546 = .ok (.aload_n 0, 1) := by decide +kernel
theorem dL_law_547 : decode cL_law 547 = .ok (.iload 5, 2) := by decide +kernel
theorem dL_law_549 : decode cL_law 549 = .ok (.iconst 1, 1) := by decide +kernel
theorem dL_law_550 : decode cL_law 550 = .ok (.iadd, 1) := by decide +kernel
theorem dL_law_551 : decode cL_law 551 = .ok (.iaload, 1) := by decide +kernel
theorem dL_law_552 : decode cL_law 552 = .ok (.aload_n 3, 1) := by decide +kernel
theorem dL_law_553 : decode cL_law 553 = .ok (.invokestatic 136, 3) := by decide +kernel
theorem dL_law_556 : decode cL_law 556 = .ok (.istore 6, 2) := by decide +kernel
theorem dL_law_558 : decode cL_law 558 = .ok (.aload_n 2, 1) := by decide +kernel
theorem dL_law_559 : decode cL_law 559 = .ok (.aload_n 0, 1) := by decide +kernel
theorem dL_law_560 : decode cL_law 560 = .ok (.iload 5, 2) := by decide +kernel
theorem dL_law_562 : decode cL_law 562 = .ok (.iconst 1, 1) := by decide +kernel
theorem dL_law_563 : decode cL_law 563 = .ok (.iadd, 1) := by decide +kernel
theorem dL_law_564 : decode cL_law 564 = .ok (.iaload, 1) := by decide +kernel
theorem dL_law_565 : decode cL_law 565 = .ok (.invokevirtual 138, 3) := by decide +kernel
theorem dL_law_568 : decode cL_law 568 = .ok (.istore 7, 2) := by decide +kernel
theorem dL_law_570 : decode cL_law 570 = .ok (.aload_n 2, 1) := by decide +kernel
theorem dL_law_571 : decode cL_law 571 = .ok (.invokevirtual 112, 3) := by decide +kernel
theorem dL_law_574 : decode cL_law 574 = .ok (.iload 6, 2) := by decide +kernel
theorem dL_law_576 : decode cL_law 576 = .ok (.if_icmp .eq 5, 3) := by decide +kernel
theorem dL_law_579 : decode cL_law 579 = .ok (.iconst 0, 1) := by decide +kernel
theorem dL_law_580 : decode cL_law 580 = .ok (.ireturn, 1) := by decide +kernel
theorem dL_law_581 : decode cL_law 581 = .ok (.iload 6, 2) := by decide +kernel
theorem dL_law_583 : decode cL_law 583 = .ok (.ifCond .ne 15, 3) := by decide +kernel
theorem dL_law_586 : decode cL_law 586 = .ok (.aload_n 3, 1) := by decide +kernel
theorem dL_law_587 : decode cL_law 587 = .ok (.iconst 0, 1) := by decide +kernel
theorem dL_law_588 : decode cL_law 588 = .ok (.laload, 1) := by decide +kernel
theorem dL_law_589 : decode cL_law 589 = .ok (.iload 7, 2) := by decide +kernel
theorem dL_law_591 : decode cL_law 591 = .ok (.i2l, 1) := by decide +kernel
theorem dL_law_592 : decode cL_law 592 = .ok (.lcmp, 1) := by decide +kernel
theorem dL_law_593 : decode cL_law 593 = .ok (.ifCond .eq 5, 3) := by decide +kernel
theorem dL_law_596 : decode cL_law 596 = .ok (.iconst 0, 1) := by decide +kernel
theorem dL_law_597 : decode cL_law 597 = .ok (.ireturn, 1) := by decide +kernel
theorem dL_law_598 : decode cL_law 598 = .ok (.goto 1249, 3) := by decide +kernel
theorem dL_law_601 : decode cL_law 601 = .ok (.aload_n 1, 1) := by decide +kernel
theorem dL_law_602 : decode cL_law 602 = .ok (.aload_n 0, 1) := by decide +kernel
theorem dL_law_603 : decode cL_law 603 = .ok (.iload 5, 2) := by decide +kernel
theorem dL_law_605 : decode cL_law 605 = .ok (.iconst 1, 1) := by decide +kernel
theorem dL_law_606 : decode cL_law 606 = .ok (.iadd, 1) := by decide +kernel
theorem dL_law_607 : decode cL_law 607 = .ok (.iaload, 1) := by decide +kernel
theorem dL_law_608 : decode cL_law 608 = .ok (.aload_n 3, 1) := by decide +kernel
theorem dL_law_609 : decode cL_law 609 = .ok (.invokestatic 139, 3) := by decide +kernel
theorem dL_law_612 : decode cL_law 612 = .ok (.istore 6, 2) := by decide +kernel
theorem dL_law_614 : decode cL_law 614 = .ok (.aload_n 2, 1) := by decide +kernel
theorem dL_law_615 : decode cL_law 615 = .ok (.aload_n 0, 1) := by decide +kernel
theorem dL_law_616 : decode cL_law 616 = .ok (.iload 5, 2) := by decide +kernel
theorem dL_law_618 : decode cL_law 618 = .ok (.iconst 1, 1) := by decide +kernel
theorem dL_law_619 : decode cL_law 619 = .ok (.iadd, 1) := by decide +kernel
theorem dL_law_620 : decode cL_law 620 = .ok (.iaload, 1) := by decide +kernel
theorem dL_law_621 : decode cL_law 621 = .ok (.invokevirtual 141, 3) := by decide +kernel
theorem dL_law_624 : decode cL_law 624 = .ok (.istore 7, 2) := by decide +kernel
theorem dL_law_626 : decode cL_law 626 = .ok (.aload_n 2, 1) := by decide +kernel
theorem dL_law_627 : decode cL_law 627 = .ok (.invokevirtual 112, 3) := by decide +kernel
theorem dL_law_630 : decode cL_law 630 = .ok (.iload 6, 2) := by decide +kernel
theorem dL_law_632 : decode cL_law 632 = .ok (.if_icmp .eq 5, 3) := by decide +kernel
theorem dL_law_635 : decode cL_law 635 = .ok (.iconst 0, 1) := by decide +kernel
theorem dL_law_636 : decode cL_law 636 = .ok (.ireturn, 1) := by decide +kernel
theorem dL_law_637 : decode cL_law 637 = .ok (.iload 6, 2) := by decide +kernel
theorem dL_law_639 : decode cL_law 639 = .ok (.ifCond .ne 15, 3) := by decide +kernel
theorem dL_law_642 : decode cL_law 642 = .ok (.aload_n 3, 1) := by decide +kernel
theorem dL_law_643 : decode cL_law 643 = .ok (.iconst 0, 1) := by decide +kernel
theorem dL_law_644 : decode cL_law 644 = .ok (.laload, 1) := by decide +kernel
theorem dL_law_645 : decode cL_law 645 = .ok (.iload 7, 2) := by decide +kernel
theorem dL_law_647 : decode cL_law 647 = .ok (.i2l, 1) := by decide +kernel
theorem dL_law_648 : decode cL_law 648 = .ok (.lcmp, 1) := by decide +kernel
theorem dL_law_649 : decode cL_law 649 = .ok (.ifCond .eq 5, 3) := by decide +kernel
theorem dL_law_652 : decode cL_law 652 = .ok (.iconst 0, 1) := by decide +kernel
theorem dL_law_653 : decode cL_law 653 = .ok (.ireturn, 1) := by decide +kernel
theorem dL_law_654 : decode cL_law 654 = .ok (.goto 1193, 3) := by decide +kernel
theorem dL_law_657 : decode cL_law 657 = .ok (.aload_n 1, 1) := by decide +kernel
theorem dL_law_658 : decode cL_law 658 = .ok (.aload_n 0, 1) := by decide +kernel
theorem dL_law_659 : decode cL_law 659 = .ok (.iload 5, 2) := by decide +kernel
theorem dL_law_661 : decode cL_law 661 = .ok (.iconst 1, 1) := by decide +kernel
theorem dL_law_662 : decode cL_law 662 = .ok (.iadd, 1) := by decide +kernel
theorem dL_law_663 : decode cL_law 663 = .ok (.iaload, 1) := by decide +kernel
theorem dL_law_664 : decode cL_law 664 = .ok (.aload_n 3, 1) := by decide +kernel
theorem dL_law_665 : decode cL_law 665 = .ok (.invokestatic 142, 3) := by decide +kernel
theorem dL_law_668 : decode cL_law 668 = .ok (.istore 6, 2) := by decide +kernel
theorem dL_law_670 : decode cL_law 670 = .ok (.aload_n 2, 1) := by decide +kernel
theorem dL_law_671 : decode cL_law 671 = .ok (.aload_n 0, 1) := by decide +kernel
theorem dL_law_672 : decode cL_law 672 = .ok (.iload 5, 2) := by decide +kernel
theorem dL_law_674 : decode cL_law 674 = .ok (.iconst 1, 1) := by decide +kernel
theorem dL_law_675 : decode cL_law 675 = .ok (.iadd, 1) := by decide +kernel
theorem dL_law_676 : decode cL_law 676 = .ok (.iaload, 1) := by decide +kernel
theorem dL_law_677 : decode cL_law 677 = .ok (.invokevirtual 144, 3) := by decide +kernel
theorem dL_law_680 : decode cL_law 680 = .ok (.istore 7, 2) := by decide +kernel
theorem dL_law_682 : decode cL_law 682 = .ok (.aload_n 2, 1) := by decide +kernel
theorem dL_law_683 : decode cL_law 683 = .ok (.invokevirtual 112, 3) := by decide +kernel
theorem dL_law_686 : decode cL_law 686 = .ok (.iload 6, 2) := by decide +kernel
theorem dL_law_688 : decode cL_law 688 = .ok (.if_icmp .eq 5, 3) := by decide +kernel
theorem dL_law_691 : decode cL_law 691 = .ok (.iconst 0, 1) := by decide +kernel
theorem dL_law_692 : decode cL_law 692 = .ok (.ireturn, 1) := by decide +kernel
theorem dL_law_693 : decode cL_law 693 = .ok (.iload 6, 2) := by decide +kernel
theorem dL_law_695 : decode cL_law 695 = .ok (.ifCond .ne 15, 3) := by decide +kernel
theorem dL_law_698 : decode cL_law 698 = .ok (.aload_n 3, 1) := by decide +kernel
theorem dL_law_699 : decode cL_law 699 = .ok (.iconst 0, 1) := by decide +kernel
theorem dL_law_700 : decode cL_law 700 = .ok (.laload, 1) := by decide +kernel
theorem dL_law_701 : decode cL_law 701 = .ok (.iload 7, 2) := by decide +kernel
theorem dL_law_703 : decode cL_law 703 = .ok (.i2l, 1) := by decide +kernel
theorem dL_law_704 : decode cL_law 704 = .ok (.lcmp, 1) := by decide +kernel
theorem dL_law_705 : decode cL_law 705 = .ok (.ifCond .eq 5, 3) := by decide +kernel
theorem dL_law_708 : decode cL_law 708 = .ok (.iconst 0, 1) := by decide +kernel
theorem dL_law_709 : decode cL_law 709 = .ok (.ireturn, 1) := by decide +kernel
theorem dL_law_710 : decode cL_law 710 = .ok (.goto 1137, 3) := by decide +kernel
theorem dL_law_713 : decode cL_law 713 = .ok (.aload_n 1, 1) := by decide +kernel
theorem dL_law_714 : decode cL_law 714 = .ok (.aload_n 0, 1) := by decide +kernel
theorem dL_law_715 : decode cL_law 715 = .ok (.iload 5, 2) := by decide +kernel
theorem dL_law_717 : decode cL_law 717 = .ok (.iconst 1, 1) := by decide +kernel
theorem dL_law_718 : decode cL_law 718 = .ok (.iadd, 1) := by decide +kernel
theorem dL_law_719 : decode cL_law 719 = .ok (.iaload, 1) := by decide +kernel
theorem dL_law_720 : decode cL_law 720 = .ok (.aload_n 3, 1) := by decide +kernel
theorem dL_law_721 : decode cL_law 721 = .ok (.invokestatic 145, 3) := by decide +kernel
theorem dL_law_724 : decode cL_law 724 = .ok (.istore 6, 2) := by decide +kernel
theorem dL_law_726 : decode cL_law 726 = .ok (.aload_n 2, 1) := by decide +kernel
theorem dL_law_727 : decode cL_law 727 = .ok (.aload_n 0, 1) := by decide +kernel
theorem dL_law_728 : decode cL_law 728 = .ok (.iload 5, 2) := by decide +kernel
theorem dL_law_730 : decode cL_law 730 = .ok (.iconst 1, 1) := by decide +kernel
theorem dL_law_731 : decode cL_law 731 = .ok (.iadd, 1) := by decide +kernel
theorem dL_law_732 : decode cL_law 732 = .ok (.iaload, 1) := by decide +kernel
theorem dL_law_733 : decode cL_law 733 = .ok (.invokevirtual 147, 3) := by decide +kernel
theorem dL_law_736 : decode cL_law 736 = .ok (.istore 7, 2) := by decide +kernel
theorem dL_law_738 : decode cL_law 738 = .ok (.aload_n 2, 1) := by decide +kernel
theorem dL_law_739 : decode cL_law 739 = .ok (.invokevirtual 112, 3) := by decide +kernel
theorem dL_law_742 : decode cL_law 742 = .ok (.iload 6, 2) := by decide +kernel
theorem dL_law_744 : decode cL_law 744 = .ok (.if_icmp .eq 5, 3) := by decide +kernel
theorem dL_law_747 : decode cL_law 747 = .ok (.iconst 0, 1) := by decide +kernel
theorem dL_law_748 : decode cL_law 748 = .ok (.ireturn, 1) := by decide +kernel
theorem dL_law_749 : decode cL_law 749 = .ok (.iload 6, 2) := by decide +kernel
theorem dL_law_751 : decode cL_law 751 = .ok (.ifCond .ne 15, 3) := by decide +kernel
theorem dL_law_754 : decode cL_law 754 = .ok (.aload_n 3, 1) := by decide +kernel
theorem dL_law_755 : decode cL_law 755 = .ok (.iconst 0, 1) := by decide +kernel
theorem dL_law_756 : decode cL_law 756 = .ok (.laload, 1) := by decide +kernel
theorem dL_law_757 : decode cL_law 757 = .ok (.iload 7, 2) := by decide +kernel
theorem dL_law_759 : decode cL_law 759 = .ok (.i2l, 1) := by decide +kernel
theorem dL_law_760 : decode cL_law 760 = .ok (.lcmp, 1) := by decide +kernel
theorem dL_law_761 : decode cL_law 761 = .ok (.ifCond .eq 5, 3) := by decide +kernel
theorem dL_law_764 : decode cL_law 764 = .ok (.iconst 0, 1) := by decide +kernel
theorem dL_law_765 : decode cL_law 765 = .ok (.ireturn, 1) := by decide +kernel
theorem dL_law_766 : decode cL_law 766 = .ok (.goto 1081, 3) := by decide +kernel
theorem dL_law_769 : decode cL_law 769 = .ok (.aload_n 1, 1) := by decide +kernel
theorem dL_law_770 : decode cL_law 770 = .ok (.invokevirtual 148, 3) := by decide +kernel
theorem dL_law_773 : decode cL_law 773 = .ok (.aload_n 2, 1) := by decide +kernel
theorem dL_law_774 : decode cL_law 774 = .ok (.invokevirtual 151, 3) := by decide +kernel
theorem dL_law_777 : decode cL_law 777 = .ok (.if_icmp .eq 1070, 3) := by decide +kernel
theorem dL_law_780 : decode cL_law 780 = .ok (.iconst 0, 1) := by decide +kernel
theorem dL_law_781 : decode cL_law 781 = .ok (.ireturn, 1) := by decide +kernel
theorem dL_law_782 : decode cL_law 782 = .ok (.aload_n 1, 1) := by decide +kernel
theorem dL_law_783 : decode cL_law 783 = .ok (.aload_n 0, 1) := by decide +kernel
theorem dL_law_784 : decode cL_law 784 = .ok (.iload 5, 2) := by decide +kernel
theorem dL_law_786 : decode cL_law 786 = .ok (.iconst 1, 1) := by decide +kernel
theorem dL_law_787 : decode cL_law 787 = .ok (.iadd, 1) := by decide +kernel
theorem dL_law_788 : decode cL_law 788 = .ok (.iaload, 1) := by decide +kernel
theorem dL_law_789 : decode cL_law 789 = .ok (.aload_n 3, 1) := by decide +kernel
theorem dL_law_790 : decode cL_law 790 = .ok (.invokestatic 152, 3) := by decide +kernel
theorem dL_law_793 : decode cL_law 793 = .ok (.istore 6, 2) := by decide +kernel
theorem dL_law_795 : decode cL_law 795 = .ok (.aload_n 2, 1) := by decide +kernel
theorem dL_law_796 : decode cL_law 796 = .ok (.aload_n 0, 1) := by decide +kernel
theorem dL_law_797 : decode cL_law 797 = .ok (.iload 5, 2) := by decide +kernel
theorem dL_law_799 : decode cL_law 799 = .ok (.iconst 1, 1) := by decide +kernel
theorem dL_law_800 : decode cL_law 800 = .ok (.iadd, 1) := by decide +kernel
theorem dL_law_801 : decode cL_law 801 = .ok (.iaload, 1) := by decide +kernel
theorem dL_law_802 : decode cL_law 802 = .ok (.invokevirtual 154, 3) := by decide +kernel
theorem dL_law_805 : decode cL_law 805 = .ok (.istore 7, 2) := by decide +kernel
theorem dL_law_807 : decode cL_law 807 = .ok (.aload_n 2, 1) := by decide +kernel
theorem dL_law_808 : decode cL_law 808 = .ok (.invokevirtual 112, 3) := by decide +kernel
theorem dL_law_811 : decode cL_law 811 = .ok (.iload 6, 2) := by decide +kernel
theorem dL_law_813 : decode cL_law 813 = .ok (.if_icmp .eq 5, 3) := by decide +kernel
theorem dL_law_816 : decode cL_law 816 = .ok (.iconst 0, 1) := by decide +kernel
theorem dL_law_817 : decode cL_law 817 = .ok (.ireturn, 1) := by decide +kernel
theorem dL_law_818 : decode cL_law 818 = .ok (.iload 6, 2) := by decide +kernel
theorem dL_law_820 : decode cL_law 820 = .ok (.ifCond .ne 15, 3) := by decide +kernel
theorem dL_law_823 : decode cL_law 823 = .ok (.aload_n 3, 1) := by decide +kernel
theorem dL_law_824 : decode cL_law 824 = .ok (.iconst 0, 1) := by decide +kernel
theorem dL_law_825 : decode cL_law 825 = .ok (.laload, 1) := by decide +kernel
theorem dL_law_826 : decode cL_law 826 = .ok (.iload 7, 2) := by decide +kernel
theorem dL_law_828 : decode cL_law 828 = .ok (.i2l, 1) := by decide +kernel
theorem dL_law_829 : decode cL_law 829 = .ok (.lcmp, 1) := by decide +kernel
theorem dL_law_830 : decode cL_law 830 = .ok (.ifCond .eq 5, 3) := by decide +kernel
theorem dL_law_833 : decode cL_law 833 = .ok (.iconst 0, 1) := by decide +kernel
theorem dL_law_834 : decode cL_law 834 = .ok (.ireturn, 1) := by decide +kernel
theorem dL_law_835 : decode cL_law 835 = .ok (.goto 1012, 3) := by decide +kernel
theorem dL_law_838 : decode cL_law 838 = .ok (.aload_n 1, 1) := by decide +kernel
theorem dL_law_839 : decode cL_law 839 = .ok (.invokevirtual 155, 3) := by decide +kernel
theorem dL_law_842 : decode cL_law 842 = .ok (.aload_n 2, 1) := by decide +kernel
theorem dL_law_843 : decode cL_law 843 = .ok (.invokevirtual 158, 3) := by decide +kernel
theorem dL_law_846 : decode cL_law 846 = .ok (.if_icmp .eq 1001, 3) := by decide +kernel
theorem dL_law_849 : decode cL_law 849 = .ok (.iconst 0, 1) := by decide +kernel
theorem dL_law_850 : decode cL_law 850 = .ok (.ireturn, 1) := by decide +kernel
theorem dL_law_851 : decode cL_law 851 = .ok (.aload_n 1, 1) := by decide +kernel
theorem dL_law_852 : decode cL_law 852 = .ok (.aload_n 0, 1) := by decide +kernel
theorem dL_law_853 : decode cL_law 853 = .ok (.iload 5, 2) := by decide +kernel
theorem dL_law_855 : decode cL_law 855 = .ok (.iconst 1, 1) := by decide +kernel
theorem dL_law_856 : decode cL_law 856 = .ok (.iadd, 1) := by decide +kernel
theorem dL_law_857 : decode cL_law 857 = .ok (.iaload, 1) := by decide +kernel
theorem dL_law_858 : decode cL_law 858 = .ok (.aload_n 0, 1) := by decide +kernel
theorem dL_law_859 : decode cL_law 859 = .ok (.iload 5, 2) := by decide +kernel
theorem dL_law_861 : decode cL_law 861 = .ok (.iconst 2, 1) := by decide +kernel
theorem dL_law_862 : decode cL_law 862 = .ok (.iadd, 1) := by decide +kernel
theorem dL_law_863 : decode cL_law 863 = .ok (.iaload, 1) := by decide +kernel
theorem dL_law_864 : decode cL_law 864 = .ok (.aload_n 3, 1) := by decide +kernel
theorem dL_law_865 : decode cL_law 865 = .ok (.invokestatic 159, 3) := by decide +kernel
theorem dL_law_868 : decode cL_law 868 = .ok (.istore 6, 2) := by decide +kernel
theorem dL_law_870 : decode cL_law 870 = .ok (.aload_n 2, 1) := by decide +kernel
theorem dL_law_871 : decode cL_law 871 = .ok (.aload_n 0, 1) := by decide +kernel
theorem dL_law_872 : decode cL_law 872 = .ok (.iload 5, 2) := by decide +kernel
theorem dL_law_874 : decode cL_law 874 = .ok (.iconst 1, 1) := by decide +kernel
theorem dL_law_875 : decode cL_law 875 = .ok (.iadd, 1) := by decide +kernel
theorem dL_law_876 : decode cL_law 876 = .ok (.iaload, 1) := by decide +kernel
theorem dL_law_877 : decode cL_law 877 = .ok (.aload_n 0, 1) := by decide +kernel
theorem dL_law_878 : decode cL_law 878 = .ok (.iload 5, 2) := by decide +kernel
theorem dL_law_880 : decode cL_law 880 = .ok (.iconst 2, 1) := by decide +kernel
theorem dL_law_881 : decode cL_law 881 = .ok (.iadd, 1) := by decide +kernel
theorem dL_law_882 : decode cL_law 882 = .ok (.iaload, 1) := by decide +kernel
theorem dL_law_883 : decode cL_law 883 = .ok (.invokevirtual 161, 3) := by decide +kernel
theorem dL_law_886 : decode cL_law 886 = .ok (.istore 7, 2) := by decide +kernel
theorem dL_law_888 : decode cL_law 888 = .ok (.aload_n 2, 1) := by decide +kernel
theorem dL_law_889 : decode cL_law 889 = .ok (.invokevirtual 112, 3) := by decide +kernel
theorem dL_law_892 : decode cL_law 892 = .ok (.iload 6, 2) := by decide +kernel
theorem dL_law_894 : decode cL_law 894 = .ok (.if_icmp .eq 5, 3) := by decide +kernel
theorem dL_law_897 : decode cL_law 897 = .ok (.iconst 0, 1) := by decide +kernel
theorem dL_law_898 : decode cL_law 898 = .ok (.ireturn, 1) := by decide +kernel
theorem dL_law_899 : decode cL_law 899 = .ok (.iload 6, 2) := by decide +kernel
theorem dL_law_901 : decode cL_law 901 = .ok (.ifCond .ne 15, 3) := by decide +kernel
theorem dL_law_904 : decode cL_law 904 = .ok (.aload_n 3, 1) := by decide +kernel
theorem dL_law_905 : decode cL_law 905 = .ok (.iconst 0, 1) := by decide +kernel
theorem dL_law_906 : decode cL_law 906 = .ok (.laload, 1) := by decide +kernel
theorem dL_law_907 : decode cL_law 907 = .ok (.iload 7, 2) := by decide +kernel
theorem dL_law_909 : decode cL_law 909 = .ok (.i2l, 1) := by decide +kernel
theorem dL_law_910 : decode cL_law 910 = .ok (.lcmp, 1) := by decide +kernel
theorem dL_law_911 : decode cL_law 911 = .ok (.ifCond .eq 5, 3) := by decide +kernel
theorem dL_law_914 : decode cL_law 914 = .ok (.iconst 0, 1) := by decide +kernel
theorem dL_law_915 : decode cL_law 915 = .ok (.ireturn, 1) := by decide +kernel
theorem dL_law_916 : decode cL_law 916 = .ok (.goto 931, 3) := by decide +kernel
theorem dL_law_919 : decode cL_law 919 = .ok (.aload_n 1, 1) := by decide +kernel
theorem dL_law_920 : decode cL_law 920 = .ok (.aload_n 0, 1) := by decide +kernel
theorem dL_law_921 : decode cL_law 921 = .ok (.iload 5, 2) := by decide +kernel
theorem dL_law_923 : decode cL_law 923 = .ok (.iconst 1, 1) := by decide +kernel
theorem dL_law_924 : decode cL_law 924 = .ok (.iadd, 1) := by decide +kernel
theorem dL_law_925 : decode cL_law 925 = .ok (.iaload, 1) := by decide +kernel
theorem dL_law_926 : decode cL_law 926 = .ok (.aload_n 0, 1) := by decide +kernel
theorem dL_law_927 : decode cL_law 927 = .ok (.iload 5, 2) := by decide +kernel
theorem dL_law_929 : decode cL_law 929 = .ok (.iconst 2, 1) := by decide +kernel
theorem dL_law_930 : decode cL_law 930 = .ok (.iadd, 1) := by decide +kernel
theorem dL_law_931 : decode cL_law 931 = .ok (.iaload, 1) := by decide +kernel
theorem dL_law_932 : decode cL_law 932 = .ok (.aload_n 3, 1) := by decide +kernel
theorem dL_law_933 : decode cL_law 933 = .ok (.invokestatic 162, 3) := by decide +kernel
theorem dL_law_936 : decode cL_law 936 = .ok (.istore 6, 2) := by decide +kernel
theorem dL_law_938 : decode cL_law 938 = .ok (.aload_n 2, 1) := by decide +kernel
theorem dL_law_939 : decode cL_law 939 = .ok (.aload_n 0, 1) := by decide +kernel
theorem dL_law_940 : decode cL_law 940 = .ok (.iload 5, 2) := by decide +kernel
theorem dL_law_942 : decode cL_law 942 = .ok (.iconst 1, 1) := by decide +kernel
theorem dL_law_943 : decode cL_law 943 = .ok (.iadd, 1) := by decide +kernel
theorem dL_law_944 : decode cL_law 944 = .ok (.iaload, 1) := by decide +kernel
theorem dL_law_945 : decode cL_law 945 = .ok (.aload_n 0, 1) := by decide +kernel
theorem dL_law_946 : decode cL_law 946 = .ok (.iload 5, 2) := by decide +kernel
theorem dL_law_948 : decode cL_law 948 = .ok (.iconst 2, 1) := by decide +kernel
theorem dL_law_949 : decode cL_law 949 = .ok (.iadd, 1) := by decide +kernel
theorem dL_law_950 : decode cL_law 950 = .ok (.iaload, 1) := by decide +kernel
theorem dL_law_951 : decode cL_law 951 = .ok (.invokevirtual 164, 3) := by decide +kernel
theorem dL_law_954 : decode cL_law 954 = .ok (.istore 7, 2) := by decide +kernel
theorem dL_law_956 : decode cL_law 956 = .ok (.aload_n 2, 1) := by decide +kernel
theorem dL_law_957 : decode cL_law 957 = .ok (.invokevirtual 112, 3) := by decide +kernel
theorem dL_law_960 : decode cL_law 960 = .ok (.iload 6, 2) := by decide +kernel
theorem dL_law_962 : decode cL_law 962 = .ok (.if_icmp .eq 5, 3) := by decide +kernel
theorem dL_law_965 : decode cL_law 965 = .ok (.iconst 0, 1) := by decide +kernel
theorem dL_law_966 : decode cL_law 966 = .ok (.ireturn, 1) := by decide +kernel
theorem dL_law_967 : decode cL_law 967 = .ok (.iload 6, 2) := by decide +kernel
theorem dL_law_969 : decode cL_law 969 = .ok (.ifCond .ne 15, 3) := by decide +kernel
theorem dL_law_972 : decode cL_law 972 = .ok (.aload_n 3, 1) := by decide +kernel
theorem dL_law_973 : decode cL_law 973 = .ok (.iconst 0, 1) := by decide +kernel
theorem dL_law_974 : decode cL_law 974 = .ok (.laload, 1) := by decide +kernel
theorem dL_law_975 : decode cL_law 975 = .ok (.iload 7, 2) := by decide +kernel
theorem dL_law_977 : decode cL_law 977 = .ok (.i2l, 1) := by decide +kernel
theorem dL_law_978 : decode cL_law 978 = .ok (.lcmp, 1) := by decide +kernel
theorem dL_law_979 : decode cL_law 979 = .ok (.ifCond .eq 5, 3) := by decide +kernel
theorem dL_law_982 : decode cL_law 982 = .ok (.iconst 0, 1) := by decide +kernel
theorem dL_law_983 : decode cL_law 983 = .ok (.ireturn, 1) := by decide +kernel
theorem dL_law_984 : decode cL_law 984 = .ok (.goto 863, 3) := by decide +kernel
theorem dL_law_987 : decode cL_law 987 = .ok (.aload_n 1, 1) := by decide +kernel
theorem dL_law_988 : decode cL_law 988 = .ok (.aload_n 0, 1) := by decide +kernel
theorem dL_law_989 : decode cL_law 989 = .ok (.iload 5, 2) := by decide +kernel
theorem dL_law_991 : decode cL_law 991 = .ok (.iconst 1, 1) := by decide +kernel
theorem dL_law_992 : decode cL_law 992 = .ok (.iadd, 1) := by decide +kernel
theorem dL_law_993 : decode cL_law 993 = .ok (.iaload, 1) := by decide +kernel
theorem dL_law_994 : decode cL_law 994 = .ok (.aload_n 3, 1) := by decide +kernel
theorem dL_law_995 : decode cL_law 995 = .ok (.invokestatic 165, 3) := by decide +kernel
theorem dL_law_998 : decode cL_law 998 = .ok (.istore 6, 2) := by decide +kernel
theorem dL_law_1000 : decode cL_law 1000 = .ok (.aload_n 2, 1) := by decide +kernel
theorem dL_law_1001 : decode cL_law 1001 = .ok (.aload_n 0, 1) := by decide +kernel
theorem dL_law_1002 : decode cL_law 1002 = .ok (.iload 5, 2) := by decide +kernel
theorem dL_law_1004 : decode cL_law 1004 = .ok (.iconst 1, 1) := by decide +kernel
theorem dL_law_1005 : decode cL_law 1005 = .ok (.iadd, 1) := by decide +kernel
theorem dL_law_1006 : decode cL_law 1006 = .ok (.iaload, 1) := by decide +kernel
theorem dL_law_1007 : decode cL_law 1007 = .ok (.invokevirtual 167, 3) := by decide +kernel
theorem dL_law_1010 : decode cL_law 1010 = .ok (.istore 7, 2) := by decide +kernel
theorem dL_law_1012 : decode cL_law 1012 = .ok (.aload_n 2, 1) := by decide +kernel
theorem dL_law_1013 : decode cL_law 1013 = .ok (.invokevirtual 112, 3) := by decide +kernel
theorem dL_law_1016 : decode cL_law 1016 = .ok (.iload 6, 2) := by decide +kernel
theorem dL_law_1018 : decode cL_law 1018 = .ok (.if_icmp .eq 5, 3) := by decide +kernel
theorem dL_law_1021 : decode cL_law 1021 = .ok (.iconst 0, 1) := by decide +kernel
theorem dL_law_1022 : decode cL_law 1022 = .ok (.ireturn, 1) := by decide +kernel
theorem dL_law_1023 : decode cL_law 1023 = .ok (.iload 6, 2) := by decide +kernel
theorem dL_law_1025 : decode cL_law 1025 = .ok (.ifCond .ne 15, 3) := by decide +kernel
theorem dL_law_1028 : decode cL_law 1028 = .ok (.aload_n 3, 1) := by decide +kernel
theorem dL_law_1029 : decode cL_law 1029 = .ok (.iconst 0, 1) := by decide +kernel
theorem dL_law_1030 : decode cL_law 1030 = .ok (.laload, 1) := by decide +kernel
theorem dL_law_1031 : decode cL_law 1031 = .ok (.iload 7, 2) := by decide +kernel
theorem dL_law_1033 : decode cL_law 1033 = .ok (.i2l, 1) := by decide +kernel
theorem dL_law_1034 : decode cL_law 1034 = .ok (.lcmp, 1) := by decide +kernel
theorem dL_law_1035 : decode cL_law 1035 = .ok (.ifCond .eq 5, 3) := by decide +kernel
theorem dL_law_1038 : decode cL_law 1038 = .ok (.iconst 0, 1) := by decide +kernel
theorem dL_law_1039 : decode cL_law 1039 = .ok (.ireturn, 1) := by decide +kernel
theorem dL_law_1040 : decode cL_law 1040 = .ok (.goto 807, 3) := by decide +kernel
theorem dL_law_1043 : decode cL_law 1043 = .ok (.aload_n 1, 1) := by decide +kernel
theorem dL_law_1044 : decode cL_law 1044 = .ok (.aload_n 0, 1) := by decide +kernel
theorem dL_law_1045 : decode cL_law 1045 = .ok (.iload 5, 2) := by decide +kernel
theorem dL_law_1047 : decode cL_law 1047 = .ok (.iconst 1, 1) := by decide +kernel
theorem dL_law_1048 : decode cL_law 1048 = .ok (.iadd, 1) := by decide +kernel
theorem dL_law_1049 : decode cL_law 1049 = .ok (.iaload, 1) := by decide +kernel
theorem dL_law_1050 : decode cL_law 1050 = .ok (.aload_n 0, 1) := by decide +kernel
theorem dL_law_1051 : decode cL_law 1051 = .ok (.iload 5, 2) := by decide +kernel
theorem dL_law_1053 : decode cL_law 1053 = .ok (.iconst 2, 1) := by decide +kernel
theorem dL_law_1054 : decode cL_law 1054 = .ok (.iadd, 1) := by decide +kernel
theorem dL_law_1055 : decode cL_law 1055 = .ok (.iaload, 1) := by decide +kernel
theorem dL_law_1056 : decode cL_law 1056 = .ok (.aload_n 3, 1) := by decide +kernel
theorem dL_law_1057 : decode cL_law 1057 = .ok (.invokestatic 168, 3) := by decide +kernel
theorem dL_law_1060 : decode cL_law 1060 = .ok (.istore 6, 2) := by decide +kernel
theorem dL_law_1062 : decode cL_law 1062 = .ok (.aload_n 2, 1) := by decide +kernel
theorem dL_law_1063 : decode cL_law 1063 = .ok (.aload_n 0, 1) := by decide +kernel
theorem dL_law_1064 : decode cL_law 1064 = .ok (.iload 5, 2) := by decide +kernel
theorem dL_law_1066 : decode cL_law 1066 = .ok (.iconst 1, 1) := by decide +kernel
theorem dL_law_1067 : decode cL_law 1067 = .ok (.iadd, 1) := by decide +kernel
theorem dL_law_1068 : decode cL_law 1068 = .ok (.iaload, 1) := by decide +kernel
theorem dL_law_1069 : decode cL_law 1069 = .ok (.aload_n 0, 1) := by decide +kernel
theorem dL_law_1070 : decode cL_law 1070 = .ok (.iload 5, 2) := by decide +kernel
theorem dL_law_1072 : decode cL_law 1072 = .ok (.iconst 2, 1) := by decide +kernel
theorem dL_law_1073 : decode cL_law 1073 = .ok (.iadd, 1) := by decide +kernel
theorem dL_law_1074 : decode cL_law 1074 = .ok (.iaload, 1) := by decide +kernel
theorem dL_law_1075 : decode cL_law 1075 = .ok (.invokevirtual 170, 3) := by decide +kernel
theorem dL_law_1078 : decode cL_law 1078 = .ok (.istore 7, 2) := by decide +kernel
theorem dL_law_1080 : decode cL_law 1080 = .ok (.aload_n 2, 1) := by decide +kernel
theorem dL_law_1081 : decode cL_law 1081 = .ok (.invokevirtual 112, 3) := by decide +kernel
theorem dL_law_1084 : decode cL_law 1084 = .ok (.iload 6, 2) := by decide +kernel
theorem dL_law_1086 : decode cL_law 1086 = .ok (.if_icmp .eq 5, 3) := by decide +kernel
theorem dL_law_1089 : decode cL_law 1089 = .ok (.iconst 0, 1) := by decide +kernel
theorem dL_law_1090 : decode cL_law 1090 = .ok (.ireturn, 1) := by decide +kernel
theorem dL_law_1091 : decode cL_law 1091 = .ok (.iload 6, 2) := by decide +kernel
theorem dL_law_1093 : decode cL_law 1093 = .ok (.ifCond .ne 22, 3) := by decide +kernel
theorem dL_law_1096 : decode cL_law 1096 = .ok (.aload_n 3, 1) := by decide +kernel
theorem dL_law_1097 : decode cL_law 1097 = .ok (.iconst 0, 1) := by decide +kernel
theorem dL_law_1098 : decode cL_law 1098 = .ok (.laload, 1) := by decide +kernel
theorem dL_law_1099 : decode cL_law 1099 = .ok (.iload 7, 2) := by decide +kernel
theorem dL_law_1101 : decode cL_law 1101 = .ok (.ifCond .eq 7, 3) := by decide +kernel
theorem dL_law_1104 : decode cL_law 1104 = .ok (.lconst 1, 1) := by decide +kernel
theorem dL_law_1105 : decode cL_law 1105 = .ok (.goto 4, 3) := by decide +kernel
theorem dL_law_1108 : decode cL_law 1108 = .ok (.lconst 0, 1) := by decide +kernel
theorem dL_law_1109 : decode cL_law 1109 = .ok (.lcmp, 1) := by decide +kernel
theorem dL_law_1110 : decode cL_law 1110 = .ok (.ifCond .eq 5, 3) := by decide +kernel
theorem dL_law_1113 : decode cL_law 1113 = .ok (.iconst 0, 1) := by decide +kernel
theorem dL_law_1114 : decode cL_law 1114 = .ok (.ireturn, 1) := by decide +kernel
theorem dL_law_1115 : decode cL_law 1115 = .ok (.goto 732, 3) := by decide +kernel
theorem dL_law_1118 : decode cL_law 1118 = .ok (.aload_n 1, 1) := by decide +kernel
theorem dL_law_1119 : decode cL_law 1119 = .ok (.aload_n 0, 1) := by decide +kernel
theorem dL_law_1120 : decode cL_law 1120 = .ok (.iload 5, 2) := by decide +kernel
theorem dL_law_1122 : decode cL_law 1122 = .ok (.iconst 1, 1) := by decide +kernel
theorem dL_law_1123 : decode cL_law 1123 = .ok (.iadd, 1) := by decide +kernel
theorem dL_law_1124 : decode cL_law 1124 = .ok (.iaload, 1) := by decide +kernel
theorem dL_law_1125 : decode cL_law 1125 = .ok (.aload_n 0, 1) := by decide +kernel
theorem dL_law_1126 : decode cL_law 1126 = .ok (.iload 5, 2) := by decide +kernel
theorem dL_law_1128 : decode cL_law 1128 = .ok (.iconst 2, 1) := by decide +kernel
theorem dL_law_1129 : decode cL_law 1129 = .ok (.iadd, 1) := by decide +kernel
theorem dL_law_1130 : decode cL_law 1130 = .ok (.iaload, 1) := by decide +kernel
theorem dL_law_1131 : decode cL_law 1131 = .ok (.aload_n 3, 1) := by decide +kernel
theorem dL_law_1132 : decode cL_law 1132 = .ok (.invokestatic 171, 3) := by decide +kernel
theorem dL_law_1135 : decode cL_law 1135 = .ok (.istore 6, 2) := by decide +kernel
theorem dL_law_1137 : decode cL_law 1137 = .ok (.aload_n 2, 1) := by decide +kernel
theorem dL_law_1138 : decode cL_law 1138 = .ok (.aload_n 0, 1) := by decide +kernel
theorem dL_law_1139 : decode cL_law 1139 = .ok (.iload 5, 2) := by decide +kernel
theorem dL_law_1141 : decode cL_law 1141 = .ok (.iconst 1, 1) := by decide +kernel
theorem dL_law_1142 : decode cL_law 1142 = .ok (.iadd, 1) := by decide +kernel
theorem dL_law_1143 : decode cL_law 1143 = .ok (.iaload, 1) := by decide +kernel
theorem dL_law_1144 : decode cL_law 1144 = .ok (.aload_n 0, 1) := by decide +kernel
theorem dL_law_1145 : decode cL_law 1145 = .ok (.iload 5, 2) := by decide +kernel
theorem dL_law_1147 : decode cL_law 1147 = .ok (.iconst 2, 1) := by decide +kernel
theorem dL_law_1148 : decode cL_law 1148 = .ok (.iadd, 1) := by decide +kernel
theorem dL_law_1149 : decode cL_law 1149 = .ok (.iaload, 1) := by decide +kernel
theorem dL_law_1150 : decode cL_law 1150 = .ok (.invokevirtual 173, 3) := by decide +kernel
theorem dL_law_1153 : decode cL_law 1153 = .ok (.istore 7, 2) := by decide +kernel
theorem dL_law_1155 : decode cL_law 1155 = .ok (.aload_n 2, 1) := by decide +kernel
theorem dL_law_1156 : decode cL_law 1156 = .ok (.invokevirtual 112, 3) := by decide +kernel
theorem dL_law_1159 : decode cL_law 1159 = .ok (.iload 6, 2) := by decide +kernel
theorem dL_law_1161 : decode cL_law 1161 = .ok (.if_icmp .eq 5, 3) := by decide +kernel
theorem dL_law_1164 : decode cL_law 1164 = .ok (.iconst 0, 1) := by decide +kernel
theorem dL_law_1165 : decode cL_law 1165 = .ok (.ireturn, 1) := by decide +kernel
theorem dL_law_1166 : decode cL_law 1166 = .ok (.iload 6, 2) := by decide +kernel
theorem dL_law_1168 : decode cL_law 1168 = .ok (.ifCond .ne 22, 3) := by decide +kernel
theorem dL_law_1171 : decode cL_law 1171 = .ok (.aload_n 3, 1) := by decide +kernel
theorem dL_law_1172 : decode cL_law 1172 = .ok (.iconst 0, 1) := by decide +kernel
theorem dL_law_1173 : decode cL_law 1173 = .ok (.laload, 1) := by decide +kernel
theorem dL_law_1174 : decode cL_law 1174 = .ok (.iload 7, 2) := by decide +kernel
theorem dL_law_1176 : decode cL_law 1176 = .ok (.ifCond .eq 7, 3) := by decide +kernel
theorem dL_law_1179 : decode cL_law 1179 = .ok (.lconst 1, 1) := by decide +kernel
theorem dL_law_1180 : decode cL_law 1180 = .ok (.goto 4, 3) := by decide +kernel
theorem dL_law_1183 : decode cL_law 1183 = .ok (.lconst 0, 1) := by decide +kernel
theorem dL_law_1184 : decode cL_law 1184 = .ok (.lcmp, 1) := by decide +kernel
theorem dL_law_1185 : decode cL_law 1185 = .ok (.ifCond .eq 5, 3) := by decide +kernel
theorem dL_law_1188 : decode cL_law 1188 = .ok (.iconst 0, 1) := by decide +kernel
theorem dL_law_1189 : decode cL_law 1189 = .ok (.ireturn, 1) := by decide +kernel
theorem dL_law_1190 : decode cL_law 1190 = .ok (.goto 657, 3) := by decide +kernel
theorem dL_law_1193 : decode cL_law 1193 = .ok (.aload_n 1, 1) := by decide +kernel
theorem dL_law_1194 : decode cL_law 1194 = .ok (.aload_n 0, 1) := by decide +kernel
theorem dL_law_1195 : decode cL_law 1195 = .ok (.iload 5, 2) := by decide +kernel
theorem dL_law_1197 : decode cL_law 1197 = .ok (.iconst 1, 1) := by decide +kernel
theorem dL_law_1198 : decode cL_law 1198 = .ok (.iadd, 1) := by decide +kernel
theorem dL_law_1199 : decode cL_law 1199 = .ok (.iaload, 1) := by decide +kernel
theorem dL_law_1200 : decode cL_law 1200 = .ok (.aload_n 0, 1) := by decide +kernel
theorem dL_law_1201 : decode cL_law 1201 = .ok (.iload 5, 2) := by decide +kernel
theorem dL_law_1203 : decode cL_law 1203 = .ok (.iconst 2, 1) := by decide +kernel
theorem dL_law_1204 : decode cL_law 1204 = .ok (.iadd, 1) := by decide +kernel
theorem dL_law_1205 : decode cL_law 1205 = .ok (.iaload, 1) := by decide +kernel
theorem dL_law_1206 : decode cL_law 1206 = .ok (.aload_n 3, 1) := by decide +kernel
theorem dL_law_1207 : decode cL_law 1207 = .ok (.invokestatic 174, 3) := by decide +kernel
theorem dL_law_1210 : decode cL_law 1210 = .ok (.istore 6, 2) := by decide +kernel
theorem dL_law_1212 : decode cL_law 1212 = .ok (.aload_n 2, 1) := by decide +kernel
theorem dL_law_1213 : decode cL_law 1213 = .ok (.aload_n 0, 1) := by decide +kernel
theorem dL_law_1214 : decode cL_law 1214 = .ok (.iload 5, 2) := by decide +kernel
theorem dL_law_1216 : decode cL_law 1216 = .ok (.iconst 1, 1) := by decide +kernel
theorem dL_law_1217 : decode cL_law 1217 = .ok (.iadd, 1) := by decide +kernel
theorem dL_law_1218 : decode cL_law 1218 = .ok (.iaload, 1) := by decide +kernel
theorem dL_law_1219 : decode cL_law 1219 = .ok (.aload_n 0, 1) := by decide +kernel
theorem dL_law_1220 : decode cL_law 1220 = .ok (.iload 5, 2) := by decide +kernel
theorem dL_law_1222 : decode cL_law 1222 = .ok (.iconst 2, 1) := by decide +kernel
theorem dL_law_1223 : decode cL_law 1223 = .ok (.iadd, 1) := by decide +kernel
theorem dL_law_1224 : decode cL_law 1224 = .ok (.iaload, 1) := by decide +kernel
theorem dL_law_1225 : decode cL_law 1225 = .ok (.invokevirtual 176, 3) := by decide +kernel
theorem dL_law_1228 : decode cL_law 1228 = .ok (.istore 7, 2) := by decide +kernel
theorem dL_law_1230 : decode cL_law 1230 = .ok (.aload_n 2, 1) := by decide +kernel
theorem dL_law_1231 : decode cL_law 1231 = .ok (.invokevirtual 112, 3) := by decide +kernel
theorem dL_law_1234 : decode cL_law 1234 = .ok (.iload 6, 2) := by decide +kernel
theorem dL_law_1236 : decode cL_law 1236 = .ok (.if_icmp .eq 5, 3) := by decide +kernel
theorem dL_law_1239 : decode cL_law 1239 = .ok (.iconst 0, 1) := by decide +kernel
theorem dL_law_1240 : decode cL_law 1240 = .ok (.ireturn, 1) := by decide +kernel
theorem dL_law_1241 : decode cL_law 1241 = .ok (.iload 6, 2) := by decide +kernel
theorem dL_law_1243 : decode cL_law 1243 = .ok (.ifCond .ne 15, 3) := by decide +kernel
theorem dL_law_1246 : decode cL_law 1246 = .ok (.aload_n 3, 1) := by decide +kernel
theorem dL_law_1247 : decode cL_law 1247 = .ok (.iconst 0, 1) := by decide +kernel
theorem dL_law_1248 : decode cL_law 1248 = .ok (.laload, 1) := by decide +kernel
theorem dL_law_1249 : decode cL_law 1249 = .ok (.iload 7, 2) := by decide +kernel
theorem dL_law_1251 : decode cL_law 1251 = .ok (.i2l, 1) := by decide +kernel
theorem dL_law_1252 : decode cL_law 1252 = .ok (.lcmp, 1) := by decide +kernel
theorem dL_law_1253 : decode cL_law 1253 = .ok (.ifCond .eq 5, 3) := by decide +kernel
theorem dL_law_1256 : decode cL_law 1256 = .ok (.iconst 0, 1) := by decide +kernel
theorem dL_law_1257 : decode cL_law 1257 = .ok (.ireturn, 1) := by decide +kernel
theorem dL_law_1258 : decode cL_law 1258 = .ok (.goto 589, 3) := by decide +kernel
theorem dL_law_1261 : decode cL_law 1261 = .ok (.aload_n 1, 1) := by decide +kernel
theorem dL_law_1262 : decode cL_law 1262 = .ok (.aload_n 0, 1) := by decide +kernel
theorem dL_law_1263 : decode cL_law 1263 = .ok (.iload 5, 2) := by decide +kernel
theorem dL_law_1265 : decode cL_law 1265 = .ok (.iconst 1, 1) := by decide +kernel
theorem dL_law_1266 : decode cL_law 1266 = .ok (.iadd, 1) := by decide +kernel
theorem dL_law_1267 : decode cL_law 1267 = .ok (.iaload, 1) := by decide +kernel
theorem dL_law_1268 : decode cL_law 1268 = .ok (.aload_n 0, 1) := by decide +kernel
theorem dL_law_1269 : decode cL_law 1269 = .ok (.iload 5, 2) := by decide +kernel
theorem dL_law_1271 : decode cL_law 1271 = .ok (.iconst 2, 1) := by decide +kernel
theorem dL_law_1272 : decode cL_law 1272 = .ok (.iadd, 1) := by decide +kernel
theorem dL_law_1273 : decode cL_law 1273 = .ok (.iaload, 1) := by decide +kernel
theorem dL_law_1274 : decode cL_law 1274 = .ok (.aload_n 3, 1) := by decide +kernel
theorem dL_law_1275 : decode cL_law 1275 = .ok (.invokestatic 177, 3) := by decide +kernel
theorem dL_law_1278 : decode cL_law 1278 = .ok (.istore 6, 2) := by decide +kernel
theorem dL_law_1280 : decode cL_law 1280 = .ok (.aload_n 2, 1) := by decide +kernel
theorem dL_law_1281 : decode cL_law 1281 = .ok (.aload_n 0, 1) := by decide +kernel
theorem dL_law_1282 : decode cL_law 1282 = .ok (.iload 5, 2) := by decide +kernel
theorem dL_law_1284 : decode cL_law 1284 = .ok (.iconst 1, 1) := by decide +kernel
theorem dL_law_1285 : decode cL_law 1285 = .ok (.iadd, 1) := by decide +kernel
theorem dL_law_1286 : decode cL_law 1286 = .ok (.iaload, 1) := by decide +kernel
theorem dL_law_1287 : decode cL_law 1287 = .ok (.aload_n 0, 1) := by decide +kernel
theorem dL_law_1288 : decode cL_law 1288 = .ok (.iload 5, 2) := by decide +kernel
theorem dL_law_1290 : decode cL_law 1290 = .ok (.iconst 2, 1) := by decide +kernel
theorem dL_law_1291 : decode cL_law 1291 = .ok (.iadd, 1) := by decide +kernel
theorem dL_law_1292 : decode cL_law 1292 = .ok (.iaload, 1) := by decide +kernel
theorem dL_law_1293 : decode cL_law 1293 = .ok (.invokevirtual 179, 3) := by decide +kernel
theorem dL_law_1296 : decode cL_law 1296 = .ok (.istore 7, 2) := by decide +kernel
theorem dL_law_1298 : decode cL_law 1298 = .ok (.aload_n 2, 1) := by decide +kernel
theorem dL_law_1299 : decode cL_law 1299 = .ok (.invokevirtual 112, 3) := by decide +kernel
theorem dL_law_1302 : decode cL_law 1302 = .ok (.iload 6, 2) := by decide +kernel
theorem dL_law_1304 : decode cL_law 1304 = .ok (.if_icmp .eq 5, 3) := by decide +kernel
theorem dL_law_1307 : decode cL_law 1307 = .ok (.iconst 0, 1) := by decide +kernel
theorem dL_law_1308 : decode cL_law 1308 = .ok (.ireturn, 1) := by decide +kernel
theorem dL_law_1309 : decode cL_law 1309 = .ok (.iload 6, 2) := by decide +kernel
theorem dL_law_1311 : decode cL_law 1311 = .ok (.ifCond .ne 15, 3) := by decide +kernel
theorem dL_law_1314 : decode cL_law 1314 = .ok (.aload_n 3, 1) := by decide +kernel
theorem dL_law_1315 : decode cL_law 1315 = .ok (.iconst 0, 1) := by decide +kernel
theorem dL_law_1316 : decode cL_law 1316 = .ok (.laload, 1) := by decide +kernel
theorem dL_law_1317 : decode cL_law 1317 = .ok (.iload 7, 2) := by decide +kernel
theorem dL_law_1319 : decode cL_law 1319 = .ok (.i2l, 1) := by decide +kernel
theorem dL_law_1320 : decode cL_law 1320 = .ok (.lcmp, 1) := by decide +kernel
theorem dL_law_1321 : decode cL_law 1321 = .ok (.ifCond .eq 5, 3) := by decide +kernel
theorem dL_law_1324 : decode cL_law 1324 = .ok (.iconst 0, 1) := by decide +kernel
theorem dL_law_1325 : decode cL_law 1325 = .ok (.ireturn, 1) := by decide +kernel
theorem dL_law_1326 : decode cL_law 1326 = .ok (.goto 521, 3) := by decide +kernel
theorem dL_law_1329 : decode cL_law 1329 = .ok (.aload_n 1, 1) := by decide +kernel
theorem dL_law_1330 : decode cL_law 1330 = .ok (.aload_n 0, 1) := by decide +kernel
theorem dL_law_1331 : decode cL_law 1331 = .ok (.iload 5, 2) := by decide +kernel
theorem dL_law_1333 : decode cL_law 1333 = .ok (.iconst 1, 1) := by decide +kernel
theorem dL_law_1334 : decode cL_law 1334 = .ok (.iadd, 1) := by decide +kernel
theorem dL_law_1335 : decode cL_law 1335 = .ok (.iaload, 1) := by decide +kernel
theorem dL_law_1336 : decode cL_law 1336 = .ok (.aload_n 0, 1) := by decide +kernel
theorem dL_law_1337 : decode cL_law 1337 = .ok (.iload 5, 2) := by decide +kernel
theorem dL_law_1339 : decode cL_law 1339 = .ok (.iconst 2, 1) := by decide +kernel
theorem dL_law_1340 : decode cL_law 1340 = .ok (.iadd, 1) := by decide +kernel
theorem dL_law_1341 : decode cL_law 1341 = .ok (.iaload, 1) := by decide +kernel
theorem dL_law_1342 : decode cL_law 1342 = .ok (.aload_n 3, 1) := by decide +kernel
theorem dL_law_1343 : decode cL_law 1343 = .ok (.invokestatic 180, 3) := by decide +kernel
theorem dL_law_1346 : decode cL_law 1346 = .ok (.istore 6, 2) := by decide +kernel
theorem dL_law_1348 : decode cL_law 1348 = .ok (.aload_n 2, 1) := by decide +kernel
theorem dL_law_1349 : decode cL_law 1349 = .ok (.aload_n 0, 1) := by decide +kernel
theorem dL_law_1350 : decode cL_law 1350 = .ok (.iload 5, 2) := by decide +kernel
theorem dL_law_1352 : decode cL_law 1352 = .ok (.iconst 1, 1) := by decide +kernel
theorem dL_law_1353 : decode cL_law 1353 = .ok (.iadd, 1) := by decide +kernel
theorem dL_law_1354 : decode cL_law 1354 = .ok (.iaload, 1) := by decide +kernel
theorem dL_law_1355 : decode cL_law 1355 = .ok (.aload_n 0, 1) := by decide +kernel
theorem dL_law_1356 : decode cL_law 1356 = .ok (.iload 5, 2) := by decide +kernel
theorem dL_law_1358 : decode cL_law 1358 = .ok (.iconst 2, 1) := by decide +kernel
theorem dL_law_1359 : decode cL_law 1359 = .ok (.iadd, 1) := by decide +kernel
theorem dL_law_1360 : decode cL_law 1360 = .ok (.iaload, 1) := by decide +kernel
theorem dL_law_1361 : decode cL_law 1361 = .ok (.invokevirtual 182, 3) := by decide +kernel
theorem dL_law_1364 : decode cL_law 1364 = .ok (.istore 7, 2) := by decide +kernel
theorem dL_law_1366 : decode cL_law 1366 = .ok (.aload_n 2, 1) := by decide +kernel
theorem dL_law_1367 : decode cL_law 1367 = .ok (.invokevirtual 112, 3) := by decide +kernel
theorem dL_law_1370 : decode cL_law 1370 = .ok (.iload 6, 2) := by decide +kernel
theorem dL_law_1372 : decode cL_law 1372 = .ok (.if_icmp .eq 5, 3) := by decide +kernel
theorem dL_law_1375 : decode cL_law 1375 = .ok (.iconst 0, 1) := by decide +kernel
theorem dL_law_1376 : decode cL_law 1376 = .ok (.ireturn, 1) := by decide +kernel
theorem dL_law_1377 : decode cL_law 1377 = .ok (.iload 6, 2) := by decide +kernel
theorem dL_law_1379 : decode cL_law 1379 = .ok (.ifCond .ne 15, 3) := by decide +kernel
theorem dL_law_1382 : decode cL_law 1382 = .ok (.aload_n 3, 1) := by decide +kernel
theorem dL_law_1383 : decode cL_law 1383 = .ok (.iconst 0, 1) := by decide +kernel
theorem dL_law_1384 : decode cL_law 1384 = .ok (.laload, 1) := by decide +kernel
theorem dL_law_1385 : decode cL_law 1385 = .ok (.iload 7, 2) := by decide +kernel
theorem dL_law_1387 : decode cL_law 1387 = .ok (.i2l, 1) := by decide +kernel
theorem dL_law_1388 : decode cL_law 1388 = .ok (.lcmp, 1) := by decide +kernel
theorem dL_law_1389 : decode cL_law 1389 = .ok (.ifCond .eq 5, 3) := by decide +kernel
theorem dL_law_1392 : decode cL_law 1392 = .ok (.iconst 0, 1) := by decide +kernel
theorem dL_law_1393 : decode cL_law 1393 = .ok (.ireturn, 1) := by decide +kernel
theorem dL_law_1394 : decode cL_law 1394 = .ok (.goto 453, 3) := by decide +kernel
theorem dL_law_1397 : decode cL_law 1397 = .ok (.aload_n 1, 1) := by decide +kernel
theorem dL_law_1398 : decode cL_law 1398 = .ok (.aload_n 0, 1) := by decide +kernel
theorem dL_law_1399 : decode cL_law 1399 = .ok (.iload 5, 2) := by decide +kernel
theorem dL_law_1401 : decode cL_law 1401 = .ok (.iconst 1, 1) := by decide +kernel
theorem dL_law_1402 : decode cL_law 1402 = .ok (.iadd, 1) := by decide +kernel
theorem dL_law_1403 : decode cL_law 1403 = .ok (.iaload, 1) := by decide +kernel
theorem dL_law_1404 : decode cL_law 1404 = .ok (.aload_n 0, 1) := by decide +kernel
theorem dL_law_1405 : decode cL_law 1405 = .ok (.iload 5, 2) := by decide +kernel
theorem dL_law_1407 : decode cL_law 1407 = .ok (.iconst 2, 1) := by decide +kernel
theorem dL_law_1408 : decode cL_law 1408 = .ok (.iadd, 1) := by decide +kernel
theorem dL_law_1409 : decode cL_law 1409 = .ok (.iaload, 1) := by decide +kernel
theorem dL_law_1410 : decode cL_law 1410 = .ok (.aload_n 0, 1) := by decide +kernel
theorem dL_law_1411 : decode cL_law 1411 = .ok (.iload 5, 2) := by decide +kernel
theorem dL_law_1413 : decode cL_law 1413 = .ok (.iconst 3, 1) := by decide +kernel
theorem dL_law_1414 : decode cL_law 1414 = .ok (.iadd, 1) := by decide +kernel
theorem dL_law_1415 : decode cL_law 1415 = .ok (.iaload, 1) := by decide +kernel
theorem dL_law_1416 : decode cL_law 1416 = .ok (.aload_n 3, 1) := by decide +kernel
theorem dL_law_1417 : decode cL_law 1417 = .ok (.invokestatic 183, 3) := by decide +kernel
theorem dL_law_1420 : decode cL_law 1420 = .ok (.istore 6, 2) := by decide +kernel
theorem dL_law_1422 : decode cL_law 1422 = .ok (.aload_n 2, 1) := by decide +kernel
theorem dL_law_1423 : decode cL_law 1423 = .ok (.aload_n 0, 1) := by decide +kernel
theorem dL_law_1424 : decode cL_law 1424 = .ok (.iload 5, 2) := by decide +kernel
theorem dL_law_1426 : decode cL_law 1426 = .ok (.iconst 1, 1) := by decide +kernel
theorem dL_law_1427 : decode cL_law 1427 = .ok (.iadd, 1) := by decide +kernel
theorem dL_law_1428 : decode cL_law 1428 = .ok (.iaload, 1) := by decide +kernel
theorem dL_law_1429 : decode cL_law 1429 = .ok (.aload_n 0, 1) := by decide +kernel
theorem dL_law_1430 : decode cL_law 1430 = .ok (.iload 5, 2) := by decide +kernel
theorem dL_law_1432 : decode cL_law 1432 = .ok (.iconst 2, 1) := by decide +kernel
theorem dL_law_1433 : decode cL_law 1433 = .ok (.iadd, 1) := by decide +kernel
theorem dL_law_1434 : decode cL_law 1434 = .ok (.iaload, 1) := by decide +kernel
theorem dL_law_1435 : decode cL_law 1435 = .ok (.aload_n 0, 1) := by decide +kernel
theorem dL_law_1436 : decode cL_law 1436 = .ok (.iload 5, 2) := by decide +kernel
theorem dL_law_1438 : decode cL_law 1438 = .ok (.iconst 3, 1) := by decide +kernel
theorem dL_law_1439 : decode cL_law 1439 = .ok (.iadd, 1) := by decide +kernel
theorem dL_law_1440 : decode cL_law 1440 = .ok (.iaload, 1) := by decide +kernel
theorem dL_law_1441 : decode cL_law 1441 = .ok (.invokevirtual 186, 3) := by decide +kernel
theorem dL_law_1444 : decode cL_law 1444 = .ok (.istore 7, 2) := by decide +kernel
theorem dL_law_1446 : decode cL_law 1446 = .ok (.aload_n 2, 1) := by decide +kernel
theorem dL_law_1447 : decode cL_law 1447 = .ok (.invokevirtual 112, 3) := by decide +kernel
theorem dL_law_1450 : decode cL_law 1450 = .ok (.iload 6, 2) := by decide +kernel
theorem dL_law_1452 : decode cL_law 1452 = .ok (.if_icmp .eq 5, 3) := by decide +kernel
theorem dL_law_1455 : decode cL_law 1455 = .ok (.iconst 0, 1) := by decide +kernel
theorem dL_law_1456 : decode cL_law 1456 = .ok (.ireturn, 1) := by decide +kernel
theorem dL_law_1457 : decode cL_law 1457 = .ok (.iload 6, 2) := by decide +kernel
theorem dL_law_1459 : decode cL_law 1459 = .ok (.ifCond .ne 15, 3) := by decide +kernel
theorem dL_law_1462 : decode cL_law 1462 = .ok (.aload_n 3, 1) := by decide +kernel
theorem dL_law_1463 : decode cL_law 1463 = .ok (.iconst 0, 1) := by decide +kernel
theorem dL_law_1464 : decode cL_law 1464 = .ok (.laload, 1) := by decide +kernel
theorem dL_law_1465 : decode cL_law 1465 = .ok (.iload 7, 2) := by decide +kernel
theorem dL_law_1467 : decode cL_law 1467 = .ok (.i2l, 1) := by decide +kernel
theorem dL_law_1468 : decode cL_law 1468 = .ok (.lcmp, 1) := by decide +kernel
theorem dL_law_1469 : decode cL_law 1469 = .ok (.ifCond .eq 5, 3) := by decide +kernel
theorem dL_law_1472 : decode cL_law 1472 = .ok (.iconst 0, 1) := by decide +kernel
theorem dL_law_1473 : decode cL_law 1473 = .ok (.ireturn, 1) := by decide +kernel
theorem dL_law_1474 : decode cL_law 1474 = .ok (.goto 373, 3) := by decide +kernel
theorem dL_law_1477 : decode cL_law 1477 = .ok (.aload_n 1, 1) := by decide +kernel
theorem dL_law_1478 : decode cL_law 1478 = .ok (.aload_n 0, 1) := by decide +kernel
theorem dL_law_1479 : decode cL_law 1479 = .ok (.iload 5, 2) := by decide +kernel
theorem dL_law_1481 : decode cL_law 1481 = .ok (.iconst 1, 1) := by decide +kernel
theorem dL_law_1482 : decode cL_law 1482 = .ok (.iadd, 1) := by decide +kernel
theorem dL_law_1483 : decode cL_law 1483 = .ok (.iaload, 1) := by decide +kernel
theorem dL_law_1484 : decode cL_law 1484 = .ok (.aload_n 0, 1) := by decide +kernel
theorem dL_law_1485 : decode cL_law 1485 = .ok (.iload 5, 2) := by decide +kernel
theorem dL_law_1487 : decode cL_law 1487 = .ok (.iconst 2, 1) := by decide +kernel
theorem dL_law_1488 : decode cL_law 1488 = .ok (.iadd, 1) := by decide +kernel
theorem dL_law_1489 : decode cL_law 1489 = .ok (.iaload, 1) := by decide +kernel
theorem dL_law_1490 : decode cL_law 1490 = .ok (.aload_n 3, 1) := by decide +kernel
theorem dL_law_1491 : decode cL_law 1491 = .ok (.invokestatic 187, 3) := by decide +kernel
theorem dL_law_1494 : decode cL_law 1494 = .ok (.istore 6, 2) := by decide +kernel
theorem dL_law_1496 : decode cL_law 1496 = .ok (.aload_n 2, 1) := by decide +kernel
theorem dL_law_1497 : decode cL_law 1497 = .ok (.aload_n 0, 1) := by decide +kernel
theorem dL_law_1498 : decode cL_law 1498 = .ok (.iload 5, 2) := by decide +kernel
theorem dL_law_1500 : decode cL_law 1500 = .ok (.iconst 1, 1) := by decide +kernel
theorem dL_law_1501 : decode cL_law 1501 = .ok (.iadd, 1) := by decide +kernel
theorem dL_law_1502 : decode cL_law 1502 = .ok (.iaload, 1) := by decide +kernel
theorem dL_law_1503 : decode cL_law 1503 = .ok (.aload_n 0, 1) := by decide +kernel
theorem dL_law_1504 : decode cL_law 1504 = .ok (.iload 5, 2) := by decide +kernel
theorem dL_law_1506 : decode cL_law 1506 = .ok (.iconst 2, 1) := by decide +kernel
theorem dL_law_1507 : decode cL_law 1507 = .ok (.iadd, 1) := by decide +kernel
theorem dL_law_1508 : decode cL_law 1508 = .ok (.iaload, 1) := by decide +kernel
theorem dL_law_1509 : decode cL_law 1509 = .ok (.invokevirtual 189, 3) := by decide +kernel
theorem dL_law_1512 : decode cL_law 1512 = .ok (.istore 7, 2) := by decide +kernel
theorem dL_law_1514 : decode cL_law 1514 = .ok (.aload_n 2, 1) := by decide +kernel
theorem dL_law_1515 : decode cL_law 1515 = .ok (.invokevirtual 112, 3) := by decide +kernel
theorem dL_law_1518 : decode cL_law 1518 = .ok (.iload 6, 2) := by decide +kernel
theorem dL_law_1520 : decode cL_law 1520 = .ok (.if_icmp .eq 5, 3) := by decide +kernel
theorem dL_law_1523 : decode cL_law 1523 = .ok (.iconst 0, 1) := by decide +kernel
theorem dL_law_1524 : decode cL_law 1524 = .ok (.ireturn, 1) := by decide +kernel
theorem dL_law_1525 : decode cL_law 1525 = .ok (.iload 6, 2) := by decide +kernel
theorem dL_law_1527 : decode cL_law 1527 = .ok (.ifCond .ne 15, 3) := by decide +kernel
theorem dL_law_1530 : decode cL_law 1530 = .ok (.aload_n 3, 1) := by decide +kernel
theorem dL_law_1531 : decode cL_law 1531 = .ok (.iconst 0, 1) := by decide +kernel
theorem dL_law_1532 : decode cL_law 1532 = .ok (.laload, 1) := by decide +kernel
theorem dL_law_1533 : decode cL_law 1533 = .ok (.iload 7, 2) := by decide +kernel
theorem dL_law_1535 : decode cL_law 1535 = .ok (.i2l, 1) := by decide +kernel
theorem dL_law_1536 : decode cL_law 1536 = .ok (.lcmp, 1) := by decide +kernel
theorem dL_law_1537 : decode cL_law 1537 = .ok (.ifCond .eq 5, 3) := by decide +kernel
theorem dL_law_1540 : decode cL_law 1540 = .ok (.iconst 0, 1) := by decide +kernel
theorem dL_law_1541 : decode cL_law 1541 = .ok (.ireturn, 1) := by decide +kernel
theorem dL_law_1542 : decode cL_law 1542 = .ok (.goto 305, 3) := by decide +kernel
theorem dL_law_1545 : decode cL_law 1545 = .ok (.aload_n 1, 1) := by decide +kernel
theorem dL_law_1546 : decode cL_law 1546 = .ok (.aload_n 0, 1) := by decide +kernel
theorem dL_law_1547 : decode cL_law 1547 = .ok (.iload 5, 2) := by decide +kernel
theorem dL_law_1549 : decode cL_law 1549 = .ok (.iconst 1, 1) := by decide +kernel
theorem dL_law_1550 : decode cL_law 1550 = .ok (.iadd, 1) := by decide +kernel
theorem dL_law_1551 : decode cL_law 1551 = .ok (.iaload, 1) := by decide +kernel
theorem dL_law_1552 : decode cL_law 1552 = .ok (.aload_n 3, 1) := by decide +kernel
theorem dL_law_1553 : decode cL_law 1553 = .ok (.invokestatic 190, 3) := by decide +kernel
theorem dL_law_1556 : decode cL_law 1556 = .ok (.istore 6, 2) := by decide +kernel
theorem dL_law_1558 : decode cL_law 1558 = .ok (.aload_n 2, 1) := by decide +kernel
theorem dL_law_1559 : decode cL_law 1559 = .ok (.aload_n 0, 1) := by decide +kernel
theorem dL_law_1560 : decode cL_law 1560 = .ok (.iload 5, 2) := by decide +kernel
theorem dL_law_1562 : decode cL_law 1562 = .ok (.iconst 1, 1) := by decide +kernel
theorem dL_law_1563 : decode cL_law 1563 = .ok (.iadd, 1) := by decide +kernel
theorem dL_law_1564 : decode cL_law 1564 = .ok (.iaload, 1) := by decide +kernel
theorem dL_law_1565 : decode cL_law 1565 = .ok (.invokevirtual 192, 3) := by decide +kernel
theorem dL_law_1568 : decode cL_law 1568 = .ok (.istore 7, 2) := by decide +kernel
theorem dL_law_1570 : decode cL_law 1570 = .ok (.aload_n 2, 1) := by decide +kernel
theorem dL_law_1571 : decode cL_law 1571 = .ok (.invokevirtual 112, 3) := by decide +kernel
theorem dL_law_1574 : decode cL_law 1574 = .ok (.iload 6, 2) := by decide +kernel
theorem dL_law_1576 : decode cL_law 1576 = .ok (.if_icmp .eq 5, 3) := by decide +kernel
theorem dL_law_1579 : decode cL_law 1579 = .ok (.iconst 0, 1) := by decide +kernel
theorem dL_law_1580 : decode cL_law 1580 = .ok (.ireturn, 1) := by decide +kernel
theorem dL_law_1581 : decode cL_law 1581 = .ok (.iload 6, 2) := by decide +kernel
theorem dL_law_1583 : decode cL_law 1583 = .ok (.ifCond .ne 15, 3) := by decide +kernel
theorem dL_law_1586 : decode cL_law 1586 = .ok (.aload_n 3, 1) := by decide +kernel
theorem dL_law_1587 : decode cL_law 1587 = .ok (.iconst 0, 1) := by decide +kernel
theorem dL_law_1588 : decode cL_law 1588 = .ok (.laload, 1) := by decide +kernel
theorem dL_law_1589 : decode cL_law 1589 = .ok (.iload 7, 2) := by decide +kernel
theorem dL_law_1591 : decode cL_law 1591 = .ok (.i2l, 1) := by decide +kernel
theorem dL_law_1592 : decode cL_law 1592 = .ok (.lcmp, 1) := by decide +kernel
theorem dL_law_1593 : decode cL_law 1593 = .ok (.ifCond .eq 5, 3) := by decide +kernel
theorem dL_law_1596 : decode cL_law 1596 = .ok (.iconst 0, 1) := by decide +kernel
theorem dL_law_1597 : decode cL_law 1597 = .ok (.ireturn, 1) := by decide +kernel
theorem dL_law_1598 : decode cL_law 1598 = .ok (.goto 249, 3) := by decide +kernel
theorem dL_law_1601 : decode cL_law 1601 = .ok (.aload_n 1, 1) := by decide +kernel
theorem dL_law_1602 : decode cL_law 1602 = .ok (.invokevirtual 193, 3) := by decide +kernel
theorem dL_law_1605 : decode cL_law 1605 = .ok (.aload_n 2, 1) := by decide +kernel
theorem dL_law_1606 : decode cL_law 1606 = .ok (.invokevirtual 196, 3) := by decide +kernel
theorem dL_law_1609 : decode cL_law 1609 = .ok (.if_icmp .eq 238, 3) := by decide +kernel
theorem dL_law_1612 : decode cL_law 1612 = .ok (.iconst 0, 1) := by decide +kernel
theorem dL_law_1613 : decode cL_law 1613 = .ok (.ireturn, 1) := by decide +kernel
theorem dL_law_1614 : decode cL_law 1614 = .ok (.aload_n 1, 1) := by decide +kernel
theorem dL_law_1615 : decode cL_law 1615 = .ok (.aload_n 0, 1) := by decide +kernel
theorem dL_law_1616 : decode cL_law 1616 = .ok (.iload 5, 2) := by decide +kernel
theorem dL_law_1618 : decode cL_law 1618 = .ok (.iconst 1, 1) := by decide +kernel
theorem dL_law_1619 : decode cL_law 1619 = .ok (.iadd, 1) := by decide +kernel
theorem dL_law_1620 : decode cL_law 1620 = .ok (.iaload, 1) := by decide +kernel
theorem dL_law_1621 : decode cL_law 1621 = .ok (.aload_n 3, 1) := by decide +kernel
theorem dL_law_1622 : decode cL_law 1622 = .ok (.invokestatic 197, 3) := by decide +kernel
theorem dL_law_1625 : decode cL_law 1625 = .ok (.istore 6, 2) := by decide +kernel
theorem dL_law_1627 : decode cL_law 1627 = .ok (.aload_n 2, 1) := by decide +kernel
theorem dL_law_1628 : decode cL_law 1628 = .ok (.aload_n 0, 1) := by decide +kernel
theorem dL_law_1629 : decode cL_law 1629 = .ok (.iload 5, 2) := by decide +kernel
theorem dL_law_1631 : decode cL_law 1631 = .ok (.iconst 1, 1) := by decide +kernel
theorem dL_law_1632 : decode cL_law 1632 = .ok (.iadd, 1) := by decide +kernel
theorem dL_law_1633 : decode cL_law 1633 = .ok (.iaload, 1) := by decide +kernel
theorem dL_law_1634 : decode cL_law 1634 = .ok (.invokevirtual 199, 3) := by decide +kernel
theorem dL_law_1637 : decode cL_law 1637 = .ok (.istore 7, 2) := by decide +kernel
theorem dL_law_1639 : decode cL_law 1639 = .ok (.aload_n 2, 1) := by decide +kernel
theorem dL_law_1640 : decode cL_law 1640 = .ok (.invokevirtual 112, 3) := by decide +kernel
theorem dL_law_1643 : decode cL_law 1643 = .ok (.iload 6, 2) := by decide +kernel
theorem dL_law_1645 : decode cL_law 1645 = .ok (.if_icmp .eq 5, 3) := by decide +kernel
theorem dL_law_1648 : decode cL_law 1648 = .ok (.iconst 0, 1) := by decide +kernel
theorem dL_law_1649 : decode cL_law 1649 = .ok (.ireturn, 1) := by decide +kernel
theorem dL_law_1650 : decode cL_law 1650 = .ok (.iload 6, 2) := by decide +kernel
theorem dL_law_1652 : decode cL_law 1652 = .ok (.ifCond .ne 15, 3) := by decide +kernel
theorem dL_law_1655 : decode cL_law 1655 = .ok (.aload_n 3, 1) := by decide +kernel
theorem dL_law_1656 : decode cL_law 1656 = .ok (.iconst 0, 1) := by decide +kernel
theorem dL_law_1657 : decode cL_law 1657 = .ok (.laload, 1) := by decide +kernel
theorem dL_law_1658 : decode cL_law 1658 = .ok (.iload 7, 2) := by decide +kernel
theorem dL_law_1660 : decode cL_law 1660 = .ok (.i2l, 1) := by decide +kernel
theorem dL_law_1661 : decode cL_law 1661 = .ok (.lcmp, 1) := by decide +kernel
theorem dL_law_1662 : decode cL_law 1662 = .ok (.ifCond .eq 5, 3) := by decide +kernel
theorem dL_law_1665 : decode cL_law 1665 = .ok (.iconst 0, 1) := by decide +kernel
theorem dL_law_1666 : decode cL_law 1666 = .ok (.ireturn, 1) := by decide +kernel
theorem dL_law_1667 : decode cL_law 1667 = .ok (.goto 180, 3) := by decide +kernel
theorem dL_law_1670 : decode cL_law 1670 = .ok (.aload_n 1, 1) := by decide +kernel
theorem dL_law_1671 : decode cL_law 1671 = .ok (.aload_n 0, 1) := by decide +kernel
theorem dL_law_1672 : decode cL_law 1672 = .ok (.iload 5, 2) := by decide +kernel
theorem dL_law_1674 : decode cL_law 1674 = .ok (.iconst 1, 1) := by decide +kernel
theorem dL_law_1675 : decode cL_law 1675 = .ok (.iadd, 1) := by decide +kernel
theorem dL_law_1676 : decode cL_law 1676 = .ok (.iaload, 1) := by decide +kernel
theorem dL_law_1677 : decode cL_law 1677 = .ok (.aload_n 3, 1) := by decide +kernel
theorem dL_law_1678 : decode cL_law 1678 = .ok (.invokestatic 200, 3) := by decide +kernel
theorem dL_law_1681 : decode cL_law 1681 = .ok (.istore 6, 2) := by decide +kernel
theorem dL_law_1683 : decode cL_law 1683 = .ok (.aload_n 2, 1) := by decide +kernel
theorem dL_law_1684 : decode cL_law 1684 = .ok (.aload_n 0, 1) := by decide +kernel
theorem dL_law_1685 : decode cL_law 1685 = .ok (.iload 5, 2) := by decide +kernel
theorem dL_law_1687 : decode cL_law 1687 = .ok (.iconst 1, 1) := by decide +kernel
theorem dL_law_1688 : decode cL_law 1688 = .ok (.iadd, 1) := by decide +kernel
theorem dL_law_1689 : decode cL_law 1689 = .ok (.iaload, 1) := by decide +kernel
theorem dL_law_1690 : decode cL_law 1690 = .ok (.invokevirtual 202, 3) := by decide +kernel
theorem dL_law_1693 : decode cL_law 1693 = .ok (.istore 7, 2) := by decide +kernel
theorem dL_law_1695 : decode cL_law 1695 = .ok (.aload_n 2, 1) := by decide +kernel
theorem dL_law_1696 : decode cL_law 1696 = .ok (.invokevirtual 112, 3) := by decide +kernel
theorem dL_law_1699 : decode cL_law 1699 = .ok (.iload 6, 2) := by decide +kernel
theorem dL_law_1701 : decode cL_law 1701 = .ok (.if_icmp .eq 5, 3) := by decide +kernel
theorem dL_law_1704 : decode cL_law 1704 = .ok (.iconst 0, 1) := by decide +kernel
theorem dL_law_1705 : decode cL_law 1705 = .ok (.ireturn, 1) := by decide +kernel
theorem dL_law_1706 : decode cL_law 1706 = .ok (.iload 6, 2) := by decide +kernel
theorem dL_law_1708 : decode cL_law 1708 = .ok (.ifCond .ne 15, 3) := by decide +kernel
theorem dL_law_1711 : decode cL_law 1711 = .ok (.aload_n 3, 1) := by decide +kernel
theorem dL_law_1712 : decode cL_law 1712 = .ok (.iconst 0, 1) := by decide +kernel
theorem dL_law_1713 : decode cL_law 1713 = .ok (.laload, 1) := by decide +kernel
theorem dL_law_1714 : decode cL_law 1714 = .ok (.iload 7, 2) := by decide +kernel
theorem dL_law_1716 : decode cL_law 1716 = .ok (.i2l, 1) := by decide +kernel
theorem dL_law_1717 : decode cL_law 1717 = .ok (.lcmp, 1) := by decide +kernel
theorem dL_law_1718 : decode cL_law 1718 = .ok (.ifCond .eq 5, 3) := by decide +kernel
theorem dL_law_1721 : decode cL_law 1721 = .ok (.iconst 0, 1) := by decide +kernel
theorem dL_law_1722 : decode cL_law 1722 = .ok (.ireturn, 1) := by decide +kernel
theorem dL_law_1723 : decode cL_law 1723 = .ok (.goto 124, 3) := by decide +kernel
theorem dL_law_1726 : decode cL_law 1726 = .ok (.aload_n 1, 1) := by decide +kernel
theorem dL_law_1727 : decode cL_law 1727 = .ok (.invokevirtual 203, 3) := by decide +kernel
theorem dL_law_1730 : decode cL_law 1730 = .ok (.aload_n 2, 1) := by decide +kernel
theorem dL_law_1731 : decode cL_law 1731 = .ok (.invokevirtual 207, 3) := by decide +kernel
theorem dL_law_1734 : decode cL_law 1734 = .ok (.lcmp, 1) := by decide +kernel
theorem dL_law_1735 : decode cL_law 1735 = .ok (.ifCond .eq 112, 3) := by decide +kernel
theorem dL_law_1738 : decode cL_law 1738 = .ok (.iconst 0, 1) := by decide +kernel
theorem dL_law_1739 : decode cL_law 1739 = .ok (.ireturn, 1) := by decide +kernel
theorem dL_law_1740 : decode cL_law 1740 = .ok (.aload_n 1, 1) := by decide +kernel
theorem dL_law_1741 : decode cL_law 1741 = .ok (.aload 4, 2) := by decide +kernel
theorem dL_law_1743 : decode cL_law 1743 = .ok (.invokestatic 208, 3) := by decide +kernel
theorem dL_law_1746 : decode cL_law 1746 = .ok (.istore 6, 2) := by decide +kernel
theorem dL_law_1748 : decode cL_law 1748 = .ok (.aload_n 2, 1) := by decide +kernel
theorem dL_law_1749 : decode cL_law 1749 = .ok (.invokevirtual 211, 3) := by decide +kernel
theorem dL_law_1752 : decode cL_law 1752 = .ok (.fstore 7, 2) := by decide +kernel
theorem dL_law_1754 : decode cL_law 1754 = .ok (.aload_n 2, 1) := by decide +kernel
theorem dL_law_1755 : decode cL_law 1755 = .ok (.invokevirtual 112, 3) := by decide +kernel
theorem dL_law_1758 : decode cL_law 1758 = .ok (.iload 6, 2) := by decide +kernel
theorem dL_law_1760 : decode cL_law 1760 = .ok (.if_icmp .eq 5, 3) := by decide +kernel
theorem dL_law_1763 : decode cL_law 1763 = .ok (.iconst 0, 1) := by decide +kernel
theorem dL_law_1764 : decode cL_law 1764 = .ok (.ireturn, 1) := by decide +kernel
theorem dL_law_1765 : decode cL_law 1765 = .ok (.iload 6, 2) := by decide +kernel
theorem dL_law_1767 : decode cL_law 1767 = .ok (.ifCond .ne 36, 3) := by decide +kernel
theorem dL_law_1770 : decode cL_law 1770 = .ok (.aload 4, 2) := by decide +kernel
theorem dL_law_1772 : decode cL_law 1772 = .ok (.iconst 0, 1) := by decide +kernel
theorem dL_law_1773 : decode cL_law 1773 = .ok (.daload, 1) := by decide +kernel
theorem dL_law_1774 : decode cL_law 1774 = .ok (.fload 7, 2) := by decide +kernel
theorem dL_law_1776 : decode cL_law 1776 = .ok (.f2d, 1) := by decide +kernel
theorem dL_law_1777 : decode cL_law 1777 = .ok (.dcmp .l, 1) := by decide +kernel
theorem dL_law_1778 : decode cL_law 1778 = .ok (.ifCond .eq 25, 3) := by decide +kernel
theorem dL_law_1781 : decode cL_law 1781 = .ok (.aload 4, 2) := by decide +kernel
theorem dL_law_1783 : decode cL_law 1783 = .ok (.iconst 0, 1) := by decide +kernel
theorem dL_law_1784 : decode cL_law 1784 = .ok (.daload, 1) := by decide +kernel
theorem dL_law_1785 : decode cL_law 1785 = .ok (.aload 4, 2) := by decide +kernel
theorem dL_law_1787 : decode cL_law 1787 = .ok (.iconst 0, 1) := by decide +kernel
theorem dL_law_1788 : decode cL_law 1788 = .ok (.daload, 1) := by decide +kernel
theorem dL_law_1789 : decode cL_law 1789 = .ok (.dcmp .l, 1) := by decide +kernel
theorem dL_law_1790 : decode cL_law 1790 = .ok (.ifCond .eq 11, 3) := by decide +kernel
theorem dL_law_1793 : decode cL_law 1793 = .ok (.fload 7, 2) := by decide +kernel
theorem dL_law_1795 : decode cL_law 1795 = .ok (.fload 7, 2) := by decide +kernel
theorem dL_law_1797 : decode cL_law 1797 = .ok (.fcmp .l, 1) := by decide +kernel
theorem dL_law_1798 : decode cL_law 1798 = .ok (.ifCond .ne 5, 3) := by decide +kernel
theorem dL_law_1801 : decode cL_law 1801 = .ok (.iconst 0, 1) := by decide +kernel
theorem dL_law_1802 : decode cL_law 1802 = .ok (.ireturn, 1) := by decide +kernel
theorem dL_law_1803 : decode cL_law 1803 = .ok (.goto 44, 3) := by decide +kernel
theorem dL_law_1806 : decode cL_law 1806 = .ok (.aload_n 1, 1) := by decide +kernel
theorem dL_law_1807 : decode cL_law 1807 = .ok (.invokevirtual 212, 3) := by decide +kernel
theorem dL_law_1810 : decode cL_law 1810 = .ok (.dstore 6, 2) := by decide +kernel
theorem dL_law_1812 : decode cL_law 1812 = .ok (.aload_n 2, 1) := by decide +kernel
theorem dL_law_1813 : decode cL_law 1813 = .ok (.invokevirtual 216, 3) := by decide +kernel
theorem dL_law_1816 : decode cL_law 1816 = .ok (.dstore 8, 2) := by decide +kernel
theorem dL_law_1818 : decode cL_law 1818 = .ok (.dload 6, 2) := by decide +kernel
theorem dL_law_1820 : decode cL_law 1820 = .ok (.dload 8, 2) := by decide +kernel
theorem dL_law_1822 : decode cL_law 1822 = .ok (.dcmp .l, 1) := by decide +kernel
theorem dL_law_1823 : decode cL_law 1823 = .ok (.ifCond .eq 21, 3) := by decide +kernel
theorem dL_law_1826 : decode cL_law 1826 = .ok (.dload 6, 2) := by decide +kernel
theorem dL_law_1828 : decode cL_law 1828 = .ok (.dload 6, 2) := by decide +kernel
theorem dL_law_1830 : decode cL_law 1830 = .ok (.dcmp .l, 1) := by decide +kernel
theorem dL_law_1831 : decode cL_law 1831 = .ok (.ifCond .eq 11, 3) := by decide +kernel
theorem dL_law_1834 : decode cL_law 1834 = .ok (.dload 8, 2) := by decide +kernel
theorem dL_law_1836 : decode cL_law 1836 = .ok (.dload 8, 2) := by decide +kernel
theorem dL_law_1838 : decode cL_law 1838 = .ok (.dcmp .l, 1) := by decide +kernel
theorem dL_law_1839 : decode cL_law 1839 = .ok (.ifCond .ne 5, 3) := by decide +kernel
theorem dL_law_1842 : decode cL_law 1842 = .ok (.iconst 0, 1) := by decide +kernel
theorem dL_law_1843 : decode cL_law 1843 = .ok (.ireturn, 1) := by decide +kernel
theorem dL_law_1844 : decode cL_law 1844 = .ok (.goto 3, 3) := by decide +kernel
theorem dL_law_1847 : decode cL_law 1847 = .ok (.iinc 5 4, 3) := by decide +kernel
theorem dL_law_1850 : decode cL_law 1850 = .ok (.goto (-1822), 3) := by decide +kernel
theorem dL_law_1853 : decode cL_law 1853 = .ok (.iconst 1, 1) := by decide +kernel
theorem dL_law_1854 : decode cL_law 1854 = .ok (.ireturn, 1) := by decide +kernel
end
section
theorem dX7_init_0 : decode cX7_init 0 = .ok (.aload_n 0, 1) := by decide +kernel
theorem dX7_init_1 : decode cX7_init 1 = .ok (.invokespecial 1, 3) := by decide +kernel
theorem dX7_init_4 : decode cX7_init 4 = .ok (.aload_n 0, 1) := by decide +kernel
theorem dX7_init_5 : decode cX7_init 5 = .ok (.bipush 60, 2) := by decide +kernel
theorem dX7_init_7 : decode cX7_init 7 = .ok (.bipush 8, 2) := by decide +kernel
theorem dX7_init_9 : decode cX7_init 9 = .ok (.multianewarray 9 2, 4) := by decide +kernel
theorem dX7_init_13 : decode cX7_init 13 = .ok (.putfield 11, 3) := by decide +kernel
theorem dX7_init_16 : decode cX7_init 16 = .ok (.aload_n 0, 1) := by decide +kernel
theorem dX7_init_17 : decode cX7_init 17 = .ok (.bipush 60, 2) := by decide +kernel
theorem dX7_init_19 : decode cX7_init 19 = .ok (.newarray .int, 2) := by decide +kernel
theorem dX7_init_21 : decode cX7_init 21 = .ok (.putfield 14, 3) := by decide +kernel
theorem dX7_init_24 : decode cX7_init 24 = .ok (.aload_n 0, 1) := by decide +kernel
theorem dX7_init_25 : decode cX7_init 25 = .ok (.bipush 60, 2) := by decide +kernel
theorem dX7_init_27 : decode cX7_init 27 = .ok (.newarray .int, 2) := by decide +kernel
theorem dX7_init_29 : decode cX7_init 29 = .ok (.putfield 18, 3) := by decide +kernel
theorem dX7_init_32 : decode cX7_init 32 = .ok (.aload_n 0, 1) := by decide +kernel
theorem dX7_init_33 : decode cX7_init 33 = .ok (.iconst 1, 1) := by decide +kernel
theorem dX7_init_34 : decode cX7_init 34 = .ok (.putfield 21, 3) := by decide +kernel
theorem dX7_init_37 : decode cX7_init 37 = .ok (.aload_n 0, 1) := by decide +kernel
theorem dX7_init_38 : decode cX7_init 38 = .ok (.iconst 5, 1) := by decide +kernel
theorem dX7_init_39 : decode cX7_init 39 = .ok (.newarray .int, 2) := by decide +kernel
theorem dX7_init_41 : decode cX7_init 41 = .ok (.putfield 25, 3) := by decide +kernel
theorem dX7_init_44 : decode cX7_init 44 = .ok (.aload_n 0, 1) := by decide +kernel
theorem dX7_init_45 : decode cX7_init 45 = .ok (.bipush 8, 2) := by decide +kernel
theorem dX7_init_47 : decode cX7_init 47 = .ok (.newarray .int, 2) := by decide +kernel
theorem dX7_init_49 : decode cX7_init 49 = .ok (.putfield 28, 3) := by decide +kernel
theorem dX7_init_52 : decode cX7_init 52 = .ok (.aload_n 0, 1) := by decide +kernel
theorem dX7_init_53 : decode cX7_init 53 = .ok (.bipush 8, 2) := by decide +kernel
theorem dX7_init_55 : decode cX7_init 55 = .ok (.newarray .int, 2) := by decide +kernel
theorem dX7_init_57 : decode cX7_init 57 = .ok (.putfield 31, 3) := by decide +kernel
theorem dX7_init_60 : decode cX7_init 60 = .ok (.aload_n 0, 1) := by decide +kernel
theorem dX7_init_61 : decode cX7_init 61 = .ok (.bipush 8, 2) := by decide +kernel
theorem dX7_init_63 : decode cX7_init 63 = .ok (.newarray .int, 2) := by decide +kernel
theorem dX7_init_65 : decode cX7_init 65 = .ok (.putfield 34, 3) := by decide +kernel
theorem dX7_init_68 : decode cX7_init 68 = .ok (.aload_n 0, 1) := by decide +kernel
theorem dX7_init_69 : decode cX7_init 69 = .ok (.bipush 8, 2) := by decide +kernel
theorem dX7_init_71 : decode cX7_init 71 = .ok (.newarray .int, 2) := by decide +kernel
theorem dX7_init_73 : decode cX7_init 73 = .ok (.putfield 37, 3) := by decide +kernel
theorem dX7_init_76 : decode cX7_init 76 = .ok (.aload_n 0, 1) := by decide +kernel
theorem dX7_init_77 : decode cX7_init 77 = .ok (.bipush 8, 2) := by decide +kernel
theorem dX7_init_79 : decode cX7_init 79 = .ok (.newarray .int, 2) := by decide +kernel
theorem dX7_init_81 : decode cX7_init 81 = .ok (.putfield 40, 3) := by decide +kernel
theorem dX7_init_84 : decode cX7_init 84 = .ok (.aload_n 0, 1) := by decide +kernel
theorem dX7_init_85 : decode cX7_init 85 = .ok (.bipush 60, 2) := by decide +kernel
theorem dX7_init_87 : decode cX7_init 87 = .ok (.newarray .int, 2) := by decide +kernel
theorem dX7_init_89 : decode cX7_init 89 = .ok (.putfield 43, 3) := by decide +kernel
theorem dX7_init_92 : decode cX7_init 92 = .ok (.aload_n 0, 1) := by decide +kernel
theorem dX7_init_93 : decode cX7_init 93 = .ok (.bipush 8, 2) := by decide +kernel
theorem dX7_init_95 : decode cX7_init 95 = .ok (.newarray .int, 2) := by decide +kernel
theorem dX7_init_97 : decode cX7_init 97 = .ok (.putfield 46, 3) := by decide +kernel
theorem dX7_init_100 : decode cX7_init 100 = .ok (.aload_n 0, 1) := by decide +kernel
theorem dX7_init_101 : decode cX7_init 101 = .ok (.bipush 60, 2) := by decide +kernel
theorem dX7_init_103 : decode cX7_init 103 = .ok (.newarray .boolean, 2) := by decide +kernel
theorem dX7_init_105 : decode cX7_init 105 = .ok (.putfield 49, 3) := by decide +kernel
theorem dX7_init_108 : decode cX7_init 108 = .ok (.aload_n 0, 1) := by decide +kernel
theorem dX7_init_109 : decode cX7_init 109 = .ok (.sipush 480, 3) := by decide +kernel
theorem dX7_init_112 : decode cX7_init 112 = .ok (.newarray .int, 2) := by decide +kernel
theorem dX7_init_114 : decode cX7_init 114 = .ok (.putfield 53, 3) := by decide +kernel
theorem dX7_init_117 : decode cX7_init 117 = .ok (.aload_n 0, 1) := by decide +kernel
theorem dX7_init_118 : decode cX7_init 118 = .ok (.sipush 480, 3) := by decide +kernel
theorem dX7_init_121 : decode cX7_init 121 = .ok (.newarray .int, 2) := by decide +kernel
theorem dX7_init_123 : decode cX7_init 123 = .ok (.putfield 56, 3) := by decide +kernel
theorem dX7_init_126 : decode cX7_init 126 = .ok (.aload_n 0, 1) := by decide +kernel
theorem dX7_init_127 : decode cX7_init 127 = .ok (.sipush 480, 3) := by decide +kernel
theorem dX7_init_130 : decode cX7_init 130 = .ok (.newarray .int, 2) := by decide +kernel
theorem dX7_init_132 : decode cX7_init 132 = .ok (.putfield 59, 3) := by decide +kernel
theorem dX7_init_135 : decode cX7_init 135 = .ok (.aload_n 0, 1) := by decide +kernel
theorem dX7_init_136 : decode cX7_init 136 = .ok (.sipush 480, 3) := by decide +kernel
theorem dX7_init_139 : decode cX7_init 139 = .ok (.newarray .int, 2) := by decide +kernel
theorem dX7_init_141 : decode cX7_init 141 = .ok (.putfield 62, 3) := by decide +kernel
theorem dX7_init_144 : decode cX7_init 144 = .ok (.aload_n 0, 1) := by decide +kernel
theorem dX7_init_145 : decode cX7_init 145 = .ok (.bipush 60, 2) := by decide +kernel
theorem dX7_init_147 : decode cX7_init 147 = .ok (.newarray .boolean, 2) := by decide +kernel
theorem dX7_init_149 : decode cX7_init 149 = .ok (.putfield 65, 3) := by decide +kernel
theorem dX7_init_152 : decode cX7_init 152 = .ok (.aload_n 0, 1) := by decide +kernel
theorem dX7_init_153 : decode cX7_init 153 = .ok (.bipush 60, 2) := by decide +kernel
theorem dX7_init_155 : decode cX7_init 155 = .ok (.newarray .boolean, 2) := by decide +kernel
theorem dX7_init_157 : decode cX7_init 157 = .ok (.putfield 68, 3) := by decide +kernel
theorem dX7_init_160 : decode cX7_init 160 = .ok (.aload_n 0, 1) := by decide +kernel
theorem dX7_init_161 : decode cX7_init 161 = .ok (.bipush 60, 2) := by decide +kernel
theorem dX7_init_163 : decode cX7_init 163 = .ok (.newarray .boolean, 2) := by decide +kernel
theorem dX7_init_165 : decode cX7_init 165 = .ok (.putfield 71, 3) := by decide +kernel
theorem dX7_init_168 : decode cX7_init 168 = .ok (.aload_n 0, 1) := by decide +kernel
theorem dX7_init_169 : decode cX7_init 169 = .ok (.bipush 60, 2) := by decide +kernel
theorem dX7_init_171 : decode cX7_init 171 = .ok (.newarray .int, 2) := by decide +kernel
theorem dX7_init_173 : decode cX7_init 173 = .ok (.putfield 74, 3) := by decide +kernel
theorem dX7_init_176 : decode cX7_init 176 = .ok (.iconst 0, 1) := by decide +kernel
theorem dX7_init_177 : decode cX7_init 177 = .ok (.istore_n 1, 1) := by decide +kernel
theorem dX7_init_178 : decode cX7_init 178 = .ok (.iload_n 1, 1) := by decide +kernel
theorem dX7_init_179 : decode cX7_init 179 = .ok (.bipush 8, 2) := by decide +kernel
theorem dX7_init_181 : decode cX7_init 181 = .ok (.if_icmp .ge 25, 3) := by decide +kernel
theorem dX7_init_184 : decode cX7_init 184 = .ok (.aload_n 0, 1) := by decide +kernel
theorem dX7_init_185 : decode cX7_init 185 = .ok (.getfield 11, 3) := by decide +kernel
theorem dX7_init_188 : decode cX7_init 188 = .ok (.iconst 0, 1) := by decide +kernel
theorem dX7_init_189 : decode cX7_init 189 = .ok (.aaload, 1) := by decide +kernel
theorem dX7_init_190 : decode cX7_init 190 = .ok (.iload_n 1, 1) := by decide +kernel
theorem dX7_init_191 : decode cX7_init 191 = .ok (.iconst (-1), 1) := by decide +kernel
theorem dX7_init_192 : decode cX7_init 192 = .ok (.iastore, 1) := by decide +kernel
theorem dX7_init_193 : decode cX7_init 193 = .ok (.aload_n 0, 1) := by decide +kernel
theorem dX7_init_194 : decode cX7_init 194 = .ok (.getfield 28, 3) := by decide +kernel
theorem dX7_init_197 : decode cX7_init 197 = .ok (.iload_n 1, 1) := by decide +kernel
theorem dX7_init_198 : decode cX7_init 198 = .ok (.iconst (-1), 1) := by decide +kernel
theorem dX7_init_199 : decode cX7_init 199 = .ok (.iastore, 1) := by decide +kernel
theorem dX7_init_200 : decode cX7_init 200 = .ok (.iinc 1 1, 3) := by decide +kernel
theorem dX7_init_203 : decode cX7_init 203 = .ok (.goto (-25), 3) := by decide +kernel
theorem dX7_init_206 : decode cX7_init 206 = .ok (.aload_n 0, 1) := by decide +kernel
theorem dX7_init_207 : decode cX7_init 207 = .ok (.getfield 14, 3) := by decide +kernel
theorem dX7_init_210 : decode cX7_init 210 = .ok (.iconst 0, 1) := by decide +kernel
theorem dX7_init_211 : decode cX7_init 211 = .ok (.iconst (-1), 1) := by decide +kernel
theorem dX7_init_212 : decode cX7_init 212 = .ok (.iastore, 1) := by decide +kernel
theorem dX7_init_213 : decode cX7_init 213 = .ok (.aload_n 0, 1) := by decide +kernel
theorem dX7_init_214 : decode cX7_init 214 = .ok (.getfield 18, 3) := by decide +kernel
theorem dX7_init_217 : decode cX7_init 217 = .ok (.iconst 0, 1) := by decide +kernel
theorem dX7_init_218 : decode cX7_init 218 = .ok (.iconst (-1), 1) := by decide +kernel
theorem dX7_init_219 : decode cX7_init 219 = .ok (.iastore, 1) := by decide +kernel
theorem dX7_init_220 : decode cX7_init 220 = .ok (.iconst 1, 1) := by decide +kernel
theorem dX7_init_221 : decode cX7_init 221 = .ok (.istore_n 1, 1) := by decide +kernel
theorem dX7_init_222 : decode cX7_init 222 = .ok (.iload_n 1, 1) := by decide +kernel
theorem dX7_init_223 : decode cX7_init 223 = .ok (.iconst 5, 1) := by decide +kernel
theorem dX7_init_224 : decode cX7_init 224 = .ok (.if_icmp .ge 16, 3) := by decide +kernel
theorem dX7_init_227 : decode cX7_init 227 = .ok (.aload_n 0, 1) := by decide +kernel
theorem dX7_init_228 : decode cX7_init 228 = .ok (.getfield 25, 3) := by decide +kernel
theorem dX7_init_231 : decode cX7_init 231 = .ok (.iload_n 1, 1) := by decide +kernel
theorem dX7_init_232 : decode cX7_init 232 = .ok (.iconst (-1), 1) := by decide +kernel
theorem dX7_init_233 : decode cX7_init 233 = .ok (.iastore, 1) := by decide +kernel
theorem dX7_init_234 : decode cX7_init 234 = .ok (.iinc 1 1, 3) := by decide +kernel
theorem dX7_init_237 : decode cX7_init 237 = .ok (.goto (-15), 3) := by decide +kernel
theorem dX7_init_240 : decode cX7_init 240 = .ok (.return_, 1) := by decide +kernel
theorem dX7_thrown_0 : decode cX7_thrown 0 = .ok (.aload_n 0, 1) := by decide +kernel
theorem dX7_thrown_1 : decode cX7_thrown 1 = .ok (.getfield 77, 3) := by decide +kernel
theorem dX7_thrown_4 : decode cX7_thrown 4 = .ok (.ireturn, 1) := by decide +kernel
theorem dX7_raises_0 : decode cX7_raises 0 = .ok (.aload_n 0, 1) := by decide +kernel
theorem dX7_raises_1 : decode cX7_raises 1 = .ok (.iload_n 1, 1) := by decide +kernel
theorem dX7_raises_2 : decode cX7_raises 2 = .ok (.putfield 77, 3) := by decide +kernel
theorem dX7_raises_5 : decode cX7_raises 5 = .ok (.iconst 0, 1) := by decide +kernel
theorem dX7_raises_6 : decode cX7_raises 6 = .ok (.ireturn, 1) := by decide +kernel
theorem dX7_in_0 : decode cX7_in 0 = .ok (.iload_n 0, 1) := by decide +kernel
theorem dX7_in_1 : decode cX7_in 1 = .ok (.iload_n 1, 1) := by decide +kernel
theorem dX7_in_2 : decode cX7_in 2 = .ok (.if_icmp .lt 12, 3) := by decide +kernel
theorem dX7_in_5 : decode cX7_in 5 = .ok (.iload_n 0, 1) := by decide +kernel
theorem dX7_in_6 : decode cX7_in 6 = .ok (.iload_n 2, 1) := by decide +kernel
theorem dX7_in_7 : decode cX7_in 7 = .ok (.if_icmp .gt 7, 3) := by decide +kernel
theorem dX7_in_10 : decode cX7_in 10 = .ok (.iconst 1, 1) := by decide +kernel
theorem dX7_in_11 : decode cX7_in 11 = .ok (.goto 4, 3) := by decide +kernel
theorem dX7_in_14 : decode cX7_in 14 = .ok (.iconst 0, 1) := by decide +kernel
theorem dX7_in_15 : decode cX7_in 15 = .ok (.ireturn, 1) := by decide +kernel
theorem dX7_isPath_0 : decode cX7_isPath 0 = .ok (.iload_n 0, 1) := by decide +kernel
theorem dX7_isPath_1 : decode cX7_isPath 1 = .ok (.iconst 0, 1) := by decide +kernel
theorem dX7_isPath_2 : decode cX7_isPath 2 = .ok (.bipush 7, 2) := by decide +kernel
theorem dX7_isPath_4 : decode cX7_isPath 4 = .ok (.invokestatic 80, 3) := by decide +kernel
theorem dX7_isPath_7 : decode cX7_isPath 7 = .ok (.ireturn, 1) := by decide +kernel
theorem dX7_isCommit_0 : decode cX7_isCommit 0 = .ok (.iload_n 1, 1) := by decide +kernel
theorem dX7_isCommit_1 : decode cX7_isCommit 1 = .ok (.iconst 0, 1) := by decide +kernel
theorem dX7_isCommit_2 : decode cX7_isCommit 2 = .ok (.aload_n 0, 1) := by decide +kernel
theorem dX7_isCommit_3 : decode cX7_isCommit 3 = .ok (.getfield 21, 3) := by decide +kernel
theorem dX7_isCommit_6 : decode cX7_isCommit 6 = .ok (.iconst 1, 1) := by decide +kernel
theorem dX7_isCommit_7 : decode cX7_isCommit 7 = .ok (.isub, 1) := by decide +kernel
theorem dX7_isCommit_8 : decode cX7_isCommit 8 = .ok (.invokestatic 80, 3) := by decide +kernel
theorem dX7_isCommit_11 : decode cX7_isCommit 11 = .ok (.ireturn, 1) := by decide +kernel
theorem dX7_write_0 : decode cX7_write 0 = .ok (.aload_n 0, 1) := by decide +kernel
theorem dX7_write_1 : decode cX7_write 1 = .ok (.iload_n 1, 1) := by decide +kernel
theorem dX7_write_2 : decode cX7_write 2 = .ok (.invokestatic 84, 3) := by decide +kernel
theorem dX7_write_5 : decode cX7_write 5 = .ok (.ifCond .ne 7, 3) := by decide +kernel
theorem dX7_write_8 : decode cX7_write 8 = .ok (.iconst 1, 1) := by decide +kernel
theorem dX7_write_9 : decode cX7_write 9 = .ok (.goto 19, 3) := by decide +kernel
theorem dX7_write_12 : decode cX7_write 12 = .ok (.iload_n 2, 1) := by decide +kernel
theorem dX7_write_13 : decode cX7_write 13 = .ok (.iconst 0, 1) := by decide +kernel
theorem dX7_write_14 : decode cX7_write 14 = .ok (.sipush 9999, 3) := by decide +kernel
theorem dX7_write_17 : decode cX7_write 17 = .ok (.invokestatic 80, 3) := by decide +kernel
theorem dX7_write_20 : decode cX7_write 20 = .ok (.ifCond .ne 7, 3) := by decide +kernel
theorem dX7_write_23 : decode cX7_write 23 = .ok (.iconst 2, 1) := by decide +kernel
theorem dX7_write_24 : decode cX7_write 24 = .ok (.goto 4, 3) := by decide +kernel
theorem dX7_write_27 : decode cX7_write 27 = .ok (.iconst 0, 1) := by decide +kernel
theorem dX7_write_28 : decode cX7_write 28 = .ok (.putfield 77, 3) := by decide +kernel
theorem dX7_write_31 : decode cX7_write 31 = .ok (.aload_n 0, 1) := by decide +kernel
theorem dX7_write_32 : decode cX7_write 32 = .ok (.getfield 77, 3) := by decide +kernel
theorem dX7_write_35 : decode cX7_write 35 = .ok (.ifCond .le 5, 3) := by decide +kernel
theorem dX7_write_38 : decode cX7_write 38 = .ok (.iconst 0, 1) := by decide +kernel
theorem dX7_write_39 : decode cX7_write 39 = .ok (.ireturn, 1) := by decide +kernel
theorem dX7_write_40 : decode cX7_write 40 = .ok (.aload_n 0, 1) := by decide +kernel
theorem dX7_write_41 : decode cX7_write 41 = .ok (.getfield 28, 3) := by decide +kernel
theorem dX7_write_44 : decode cX7_write 44 = .ok (.iload_n 1, 1) := by decide +kernel
theorem dX7_write_45 : decode cX7_write 45 = .ok (.iaload, 1) := by decide +kernel
theorem dX7_write_46 : decode cX7_write 46 = .ok (.istore_n 3, 1) := by decide +kernel
theorem dX7_write_47 : decode cX7_write 47 = .ok (.aload_n 0, 1) := by decide +kernel
theorem dX7_write_48 : decode cX7_write 48 = .ok (.getfield 28, 3) := by decide +kernel
theorem dX7_write_51 : decode cX7_write 51 = .ok (.iload_n 1, 1) := by decide +kernel
theorem dX7_write_52 : decode cX7_write 52 = .ok (.iload_n 2, 1) := by decide +kernel
theorem dX7_write_53 : decode cX7_write 53 = .ok (.iastore, 1) := by decide +kernel
theorem dX7_write_54 : decode cX7_write 54 = .ok (.iload_n 3, 1) := by decide +kernel
theorem dX7_write_55 : decode cX7_write 55 = .ok (.ireturn, 1) := by decide +kernel
theorem dX7_lacks_0 : decode cX7_lacks 0 = .ok (.aload_n 0, 1) := by decide +kernel
theorem dX7_lacks_1 : decode cX7_lacks 1 = .ok (.iload_n 1, 1) := by decide +kernel
theorem dX7_lacks_2 : decode cX7_lacks 2 = .ok (.invokestatic 84, 3) := by decide +kernel
theorem dX7_lacks_5 : decode cX7_lacks 5 = .ok (.ifCond .ne 7, 3) := by decide +kernel
theorem dX7_lacks_8 : decode cX7_lacks 8 = .ok (.iconst 1, 1) := by decide +kernel
theorem dX7_lacks_9 : decode cX7_lacks 9 = .ok (.goto 18, 3) := by decide +kernel
theorem dX7_lacks_12 : decode cX7_lacks 12 = .ok (.aload_n 0, 1) := by decide +kernel
theorem dX7_lacks_13 : decode cX7_lacks 13 = .ok (.getfield 28, 3) := by decide +kernel
theorem dX7_lacks_16 : decode cX7_lacks 16 = .ok (.iload_n 1, 1) := by decide +kernel
theorem dX7_lacks_17 : decode cX7_lacks 17 = .ok (.iaload, 1) := by decide +kernel
theorem dX7_lacks_18 : decode cX7_lacks 18 = .ok (.iconst (-1), 1) := by decide +kernel
theorem dX7_lacks_19 : decode cX7_lacks 19 = .ok (.if_icmp .ne 7, 3) := by decide +kernel
theorem dX7_lacks_22 : decode cX7_lacks 22 = .ok (.iconst 2, 1) := by decide +kernel
theorem dX7_lacks_23 : decode cX7_lacks 23 = .ok (.goto 4, 3) := by decide +kernel
theorem dX7_lacks_26 : decode cX7_lacks 26 = .ok (.iconst 0, 1) := by decide +kernel
theorem dX7_lacks_27 : decode cX7_lacks 27 = .ok (.putfield 77, 3) := by decide +kernel
theorem dX7_lacks_30 : decode cX7_lacks 30 = .ok (.aload_n 0, 1) := by decide +kernel
theorem dX7_lacks_31 : decode cX7_lacks 31 = .ok (.getfield 77, 3) := by decide +kernel
theorem dX7_lacks_34 : decode cX7_lacks 34 = .ok (.ifCond .le 7, 3) := by decide +kernel
theorem dX7_lacks_37 : decode cX7_lacks 37 = .ok (.iconst 1, 1) := by decide +kernel
theorem dX7_lacks_38 : decode cX7_lacks 38 = .ok (.goto 4, 3) := by decide +kernel
theorem dX7_lacks_41 : decode cX7_lacks 41 = .ok (.iconst 0, 1) := by decide +kernel
theorem dX7_lacks_42 : decode cX7_lacks 42 = .ok (.ireturn, 1) := by decide +kernel
theorem dX7_erase_0 : decode cX7_erase 0 = .ok (.aload_n 0, 1) := by decide +kernel
theorem dX7_erase_1 : decode cX7_erase 1 = .ok (.iload_n 1, 1) := by decide +kernel
theorem dX7_erase_2 : decode cX7_erase 2 = .ok (.invokevirtual 88, 3) := by decide +kernel
theorem dX7_erase_5 : decode cX7_erase 5 = .ok (.ifCond .eq 5, 3) := by decide +kernel
theorem dX7_erase_8 : decode cX7_erase 8 = .ok (.iconst 0, 1) := by decide +kernel
theorem dX7_erase_9 : decode cX7_erase 9 = .ok (.ireturn, 1) := by decide +kernel
theorem dX7_erase_10 : decode cX7_erase 10 = .ok (.aload_n 0, 1) := by decide +kernel
theorem dX7_erase_11 : decode cX7_erase 11 = .ok (.getfield 28, 3) := by decide +kernel
theorem dX7_erase_14 : decode cX7_erase 14 = .ok (.iload_n 1, 1) := by decide +kernel
theorem dX7_erase_15 : decode cX7_erase 15 = .ok (.iaload, 1) := by decide +kernel
theorem dX7_erase_16 : decode cX7_erase 16 = .ok (.istore_n 2, 1) := by decide +kernel
theorem dX7_erase_17 : decode cX7_erase 17 = .ok (.aload_n 0, 1) := by decide +kernel
theorem dX7_erase_18 : decode cX7_erase 18 = .ok (.getfield 28, 3) := by decide +kernel
theorem dX7_erase_21 : decode cX7_erase 21 = .ok (.iload_n 1, 1) := by decide +kernel
theorem dX7_erase_22 : decode cX7_erase 22 = .ok (.iconst (-1), 1) := by decide +kernel
theorem dX7_erase_23 : decode cX7_erase 23 = .ok (.iastore, 1) := by decide +kernel
theorem dX7_erase_24 : decode cX7_erase 24 = .ok (.iload_n 2, 1) := by decide +kernel
theorem dX7_erase_25 : decode cX7_erase 25 = .ok (.ireturn, 1) := by decide +kernel
theorem dX7_move_0 : decode cX7_move 0 = .ok (.iload_n 2, 1) := by decide +kernel
theorem dX7_move_1 : decode cX7_move 1 = .ok (.invokestatic 84, 3) := by decide +kernel
theorem dX7_move_4 : decode cX7_move 4 = .ok (.ifCond .ne 9, 3) := by decide +kernel
theorem dX7_move_7 : decode cX7_move 7 = .ok (.aload_n 0, 1) := by decide +kernel
theorem dX7_move_8 : decode cX7_move 8 = .ok (.iconst 1, 1) := by decide +kernel
theorem dX7_move_9 : decode cX7_move 9 = .ok (.invokevirtual 91, 3) := by decide +kernel
theorem dX7_move_12 : decode cX7_move 12 = .ok (.ireturn, 1) := by decide +kernel
theorem dX7_move_13 : decode cX7_move 13 = .ok (.aload_n 0, 1) := by decide +kernel
theorem dX7_move_14 : decode cX7_move 14 = .ok (.iload_n 1, 1) := by decide +kernel
theorem dX7_move_15 : decode cX7_move 15 = .ok (.invokevirtual 88, 3) := by decide +kernel
theorem dX7_move_18 : decode cX7_move 18 = .ok (.ifCond .eq 5, 3) := by decide +kernel
theorem dX7_move_21 : decode cX7_move 21 = .ok (.iconst 0, 1) := by decide +kernel
theorem dX7_move_22 : decode cX7_move 22 = .ok (.ireturn, 1) := by decide +kernel
theorem dX7_move_23 : decode cX7_move 23 = .ok (.aload_n 0, 1) := by decide +kernel
theorem dX7_move_24 : decode cX7_move 24 = .ok (.getfield 28, 3) := by decide +kernel
theorem dX7_move_27 : decode cX7_move 27 = .ok (.iload_n 2, 1) := by decide +kernel
theorem dX7_move_28 : decode cX7_move 28 = .ok (.iaload, 1) := by decide +kernel
theorem dX7_move_29 : decode cX7_move 29 = .ok (.iconst (-1), 1) := by decide +kernel
theorem dX7_move_30 : decode cX7_move 30 = .ok (.if_icmp .eq 9, 3) := by decide +kernel
theorem dX7_move_33 : decode cX7_move 33 = .ok (.aload_n 0, 1) := by decide +kernel
theorem dX7_move_34 : decode cX7_move 34 = .ok (.iconst 3, 1) := by decide +kernel
theorem dX7_move_35 : decode cX7_move 35 = .ok (.invokevirtual 91, 3) := by decide +kernel
theorem dX7_move_38 : decode cX7_move 38 = .ok (.ireturn, 1) := by decide +kernel
theorem dX7_move_39 : decode cX7_move 39 = .ok (.aload_n 0, 1) := by decide +kernel
theorem dX7_move_40 : decode cX7_move 40 = .ok (.getfield 28, 3) := by decide +kernel
theorem dX7_move_43 : decode cX7_move 43 = .ok (.iload_n 2, 1) := by decide +kernel
theorem dX7_move_44 : decode cX7_move 44 = .ok (.aload_n 0, 1) := by decide +kernel
theorem dX7_move_45 : decode cX7_move 45 = .ok (.getfield 28, 3) := by decide +kernel
theorem dX7_move_48 : decode cX7_move 48 = .ok (.iload_n 1, 1) := by decide +kernel
theorem dX7_move_49 : decode cX7_move 49 = .ok (.iaload, 1) := by decide +kernel
theorem dX7_move_50 : decode cX7_move 50 = .ok (.iastore, 1) := by decide +kernel
theorem dX7_move_51 : decode cX7_move 51 = .ok (.aload_n 0, 1) := by decide +kernel
theorem dX7_move_52 : decode cX7_move 52 = .ok (.getfield 28, 3) := by decide +kernel
theorem dX7_move_55 : decode cX7_move 55 = .ok (.iload_n 1, 1) := by decide +kernel
theorem dX7_move_56 : decode cX7_move 56 = .ok (.iconst (-1), 1) := by decide +kernel
theorem dX7_move_57 : decode cX7_move 57 = .ok (.iastore, 1) := by decide +kernel
theorem dX7_move_58 : decode cX7_move 58 = .ok (.aload_n 0, 1) := by decide +kernel
theorem dX7_move_59 : decode cX7_move 59 = .ok (.getfield 28, 3) := by decide +kernel
theorem dX7_move_62 : decode cX7_move 62 = .ok (.iload_n 2, 1) := by decide +kernel
theorem dX7_move_63 : decode cX7_move 63 = .ok (.iaload, 1) := by decide +kernel
theorem dX7_move_64 : decode cX7_move 64 = .ok (.ireturn, 1) := by decide +kernel
theorem dX7_content_0 : decode cX7_content 0 = .ok (.aload_n 0, 1) := by decide +kernel
theorem dX7_content_1 : decode cX7_content 1 = .ok (.iload_n 1, 1) := by decide +kernel
theorem dX7_content_2 : decode cX7_content 2 = .ok (.invokevirtual 88, 3) := by decide +kernel
theorem dX7_content_5 : decode cX7_content 5 = .ok (.ifCond .eq 7, 3) := by decide +kernel
theorem dX7_content_8 : decode cX7_content 8 = .ok (.iconst 0, 1) := by decide +kernel
theorem dX7_content_9 : decode cX7_content 9 = .ok (.goto 9, 3) := by decide +kernel
theorem dX7_content_12 : decode cX7_content 12 = .ok (.aload_n 0, 1) := by decide +kernel
theorem dX7_content_13 : decode cX7_content 13 = .ok (.getfield 28, 3) := by decide +kernel
theorem dX7_content_16 : decode cX7_content 16 = .ok (.iload_n 1, 1) := by decide +kernel
theorem dX7_content_17 : decode cX7_content 17 = .ok (.iaload, 1) := by decide +kernel
theorem dX7_content_18 : decode cX7_content 18 = .ok (.ireturn, 1) := by decide +kernel
theorem dX7_changed_0 : decode cX7_changed 0 = .ok (.iconst 0, 1) := by decide +kernel
theorem dX7_changed_1 : decode cX7_changed 1 = .ok (.istore_n 1, 1) := by decide +kernel
theorem dX7_changed_2 : decode cX7_changed 2 = .ok (.iconst 0, 1) := by decide +kernel
theorem dX7_changed_3 : decode cX7_changed 3 = .ok (.istore_n 2, 1) := by decide +kernel
theorem dX7_changed_4 : decode cX7_changed 4 = .ok (.iload_n 2, 1) := by decide +kernel
theorem dX7_changed_5 : decode cX7_changed 5 = .ok (.bipush 8, 2) := by decide +kernel
theorem dX7_changed_7 : decode cX7_changed 7 = .ok (.if_icmp .ge 42, 3) := by decide +kernel
theorem dX7_changed_10 : decode cX7_changed 10 = .ok (.iload_n 1, 1) := by decide +kernel
theorem dX7_changed_11 : decode cX7_changed 11 = .ok (.aload_n 0, 1) := by decide +kernel
theorem dX7_changed_12 : decode cX7_changed 12 = .ok (.getfield 28, 3) := by decide +kernel
theorem dX7_changed_15 : decode cX7_changed 15 = .ok (.iload_n 2, 1) := by decide +kernel
theorem dX7_changed_16 : decode cX7_changed 16 = .ok (.iaload, 1) := by decide +kernel
theorem dX7_changed_17 : decode cX7_changed 17 = .ok (.aload_n 0, 1) := by decide +kernel
theorem dX7_changed_18 : decode cX7_changed 18 = .ok (.getfield 11, 3) := by decide +kernel
theorem dX7_changed_21 : decode cX7_changed 21 = .ok (.aload_n 0, 1) := by decide +kernel
theorem dX7_changed_22 : decode cX7_changed 22 = .ok (.getfield 25, 3) := by decide +kernel
theorem dX7_changed_25 : decode cX7_changed 25 = .ok (.aload_n 0, 1) := by decide +kernel
theorem dX7_changed_26 : decode cX7_changed 26 = .ok (.getfield 95, 3) := by decide +kernel
theorem dX7_changed_29 : decode cX7_changed 29 = .ok (.iaload, 1) := by decide +kernel
theorem dX7_changed_30 : decode cX7_changed 30 = .ok (.aaload, 1) := by decide +kernel
theorem dX7_changed_31 : decode cX7_changed 31 = .ok (.iload_n 2, 1) := by decide +kernel
theorem dX7_changed_32 : decode cX7_changed 32 = .ok (.iaload, 1) := by decide +kernel
theorem dX7_changed_33 : decode cX7_changed 33 = .ok (.if_icmp .eq 7, 3) := by decide +kernel
theorem dX7_changed_36 : decode cX7_changed 36 = .ok (.iconst 1, 1) := by decide +kernel
theorem dX7_changed_37 : decode cX7_changed 37 = .ok (.goto 4, 3) := by decide +kernel
theorem dX7_changed_40 : decode cX7_changed 40 = .ok (.iconst 0, 1) := by decide +kernel
theorem dX7_changed_41 : decode cX7_changed 41 = .ok (.iadd, 1) := by decide +kernel
theorem dX7_changed_42 : decode cX7_changed 42 = .ok (.istore_n 1, 1) := by decide +kernel
theorem dX7_changed_43 : decode cX7_changed 43 = .ok (.iinc 2 1, 3) := by decide +kernel
theorem dX7_changed_46 : decode cX7_changed 46 = .ok (.goto (-42), 3) := by decide +kernel
theorem dX7_changed_49 : decode cX7_changed 49 = .ok (.iload_n 1, 1) := by decide +kernel
theorem dX7_changed_50 : decode cX7_changed 50 = .ok (.ireturn, 1) := by decide +kernel
theorem dX7_changedPaths_0 : decode cX7_changedPaths 0 = .ok (.aload_n 0, 1) := by decide +kernel
theorem dX7_changedPaths_1 : decode cX7_changedPaths 1 = .ok (.iconst 0, 1) := by decide +kernel
theorem dX7_changedPaths_2 : decode cX7_changedPaths 2 = .ok (.putfield 77, 3) := by decide +kernel
theorem dX7_changedPaths_5 : decode cX7_changedPaths 5 = .ok (.aload_n 0, 1) := by decide +kernel
theorem dX7_changedPaths_6 : decode cX7_changedPaths 6 = .ok (.invokevirtual 98, 3) := by decide +kernel
theorem dX7_changedPaths_9 : decode cX7_changedPaths 9 = .ok (.ireturn, 1) := by decide +kernel
theorem dX7_isSame_0 : decode cX7_isSame 0 = .ok (.iconst 0, 1) := by decide +kernel
theorem dX7_isSame_1 : decode cX7_isSame 1 = .ok (.istore_n 2, 1) := by decide +kernel
theorem dX7_isSame_2 : decode cX7_isSame 2 = .ok (.iload_n 2, 1) := by decide +kernel
theorem dX7_isSame_3 : decode cX7_isSame 3 = .ok (.bipush 8, 2) := by decide +kernel
theorem dX7_isSame_5 : decode cX7_isSame 5 = .ok (.if_icmp .ge 20, 3) := by decide +kernel
theorem dX7_isSame_8 : decode cX7_isSame 8 = .ok (.aload_n 0, 1) := by decide +kernel
theorem dX7_isSame_9 : decode cX7_isSame 9 = .ok (.iload_n 2, 1) := by decide +kernel
theorem dX7_isSame_10 : decode cX7_isSame 10 = .ok (.iaload, 1) := by decide +kernel
theorem dX7_isSame_11 : decode cX7_isSame 11 = .ok (.aload_n 1, 1) := by decide +kernel
theorem dX7_isSame_12 : decode cX7_isSame 12 = .ok (.iload_n 2, 1) := by decide +kernel
theorem dX7_isSame_13 : decode cX7_isSame 13 = .ok (.iaload, 1) := by decide +kernel
theorem dX7_isSame_14 : decode cX7_isSame 14 = .ok (.if_icmp .eq 5, 3) := by decide +kernel
theorem dX7_isSame_17 : decode cX7_isSame 17 = .ok (.iconst 0, 1) := by decide +kernel
theorem dX7_isSame_18 : decode cX7_isSame 18 = .ok (.ireturn, 1) := by decide +kernel
theorem dX7_isSame_19 : decode cX7_isSame 19 = .ok (.iinc 2 1, 3) := by decide +kernel
theorem dX7_isSame_22 : decode cX7_isSame 22 = .ok (.goto (-20), 3) := by decide +kernel
theorem dX7_isSame_25 : decode cX7_isSame 25 = .ok (.iconst 1, 1) := by decide +kernel
theorem dX7_isSame_26 : decode cX7_isSame 26 = .ok (.ireturn, 1) := by decide +kernel
theorem dX7_made_0 : decode cX7_made 0 = .ok (.iconst 0, 1) := by decide +kernel
theorem dX7_made_1 : decode cX7_made 1 = .ok (.istore 4, 2) := by decide +kernel
theorem dX7_made_3 : decode cX7_made 3 = .ok (.iload 4, 2) := by decide +kernel
theorem dX7_made_5 : decode cX7_made 5 = .ok (.aload_n 0, 1) := by decide +kernel
theorem dX7_made_6 : decode cX7_made 6 = .ok (.getfield 21, 3) := by decide +kernel
theorem dX7_made_9 : decode cX7_made 9 = .ok (.if_icmp .ge 48, 3) := by decide +kernel
theorem dX7_made_12 : decode cX7_made 12 = .ok (.aload_n 0, 1) := by decide +kernel
theorem dX7_made_13 : decode cX7_made 13 = .ok (.getfield 14, 3) := by decide +kernel
theorem dX7_made_16 : decode cX7_made 16 = .ok (.iload 4, 2) := by decide +kernel
theorem dX7_made_18 : decode cX7_made 18 = .ok (.iaload, 1) := by decide +kernel
theorem dX7_made_19 : decode cX7_made 19 = .ok (.iload_n 2, 1) := by decide +kernel
theorem dX7_made_20 : decode cX7_made 20 = .ok (.if_icmp .ne 31, 3) := by decide +kernel
theorem dX7_made_23 : decode cX7_made 23 = .ok (.aload_n 0, 1) := by decide +kernel
theorem dX7_made_24 : decode cX7_made 24 = .ok (.getfield 18, 3) := by decide +kernel
theorem dX7_made_27 : decode cX7_made 27 = .ok (.iload 4, 2) := by decide +kernel
theorem dX7_made_29 : decode cX7_made 29 = .ok (.iaload, 1) := by decide +kernel
theorem dX7_made_30 : decode cX7_made 30 = .ok (.iload_n 3, 1) := by decide +kernel
theorem dX7_made_31 : decode cX7_made 31 = .ok (.if_icmp .ne 20, 3) := by decide +kernel
theorem dX7_made_34 : decode cX7_made 34 = .ok (.aload_n 0, 1) := by decide +kernel
theorem dX7_made_35 : decode cX7_made 35 = .ok (.getfield 11, 3) := by decide +kernel
theorem dX7_made_38 : decode cX7_made 38 = .ok (.iload 4, 2) := by decide +kernel
theorem dX7_made_40 : decode cX7_made 40 = .ok (.aaload, 1) := by decide +kernel
theorem dX7_made_41 : decode cX7_made 41 = .ok (.aload_n 1, 1) := by decide +kernel
theorem dX7_made_42 : decode cX7_made 42 = .ok (.invokestatic 102, 3) := by decide +kernel
theorem dX7_made_45 : decode cX7_made 45 = .ok (.ifCond .eq 6, 3) := by decide +kernel
theorem dX7_made_48 : decode cX7_made 48 = .ok (.iload 4, 2) := by decide +kernel
theorem dX7_made_50 : decode cX7_made 50 = .ok (.ireturn, 1) := by decide +kernel
theorem dX7_made_51 : decode cX7_made 51 = .ok (.iinc 4 1, 3) := by decide +kernel
theorem dX7_made_54 : decode cX7_made 54 = .ok (.goto (-51), 3) := by decide +kernel
theorem dX7_made_57 : decode cX7_made 57 = .ok (.aload_n 0, 1) := by decide +kernel
theorem dX7_made_58 : decode cX7_made 58 = .ok (.getfield 21, 3) := by decide +kernel
theorem dX7_made_61 : decode cX7_made 61 = .ok (.bipush 60, 2) := by decide +kernel
theorem dX7_made_63 : decode cX7_made 63 = .ok (.if_icmp .ne 5, 3) := by decide +kernel
theorem dX7_made_66 : decode cX7_made 66 = .ok (.iconst (-1), 1) := by decide +kernel
theorem dX7_made_67 : decode cX7_made 67 = .ok (.ireturn, 1) := by decide +kernel
theorem dX7_made_68 : decode cX7_made 68 = .ok (.iconst 0, 1) := by decide +kernel
theorem dX7_made_69 : decode cX7_made 69 = .ok (.istore 4, 2) := by decide +kernel
theorem dX7_made_71 : decode cX7_made 71 = .ok (.iload 4, 2) := by decide +kernel
theorem dX7_made_73 : decode cX7_made 73 = .ok (.bipush 8, 2) := by decide +kernel
theorem dX7_made_75 : decode cX7_made 75 = .ok (.if_icmp .ge 25, 3) := by decide +kernel
theorem dX7_made_78 : decode cX7_made 78 = .ok (.aload_n 0, 1) := by decide +kernel
theorem dX7_made_79 : decode cX7_made 79 = .ok (.getfield 11, 3) := by decide +kernel
theorem dX7_made_82 : decode cX7_made 82 = .ok (.aload_n 0, 1) := by decide +kernel
theorem dX7_made_83 : decode cX7_made 83 = .ok (.getfield 21, 3) := by decide +kernel
theorem dX7_made_86 : decode cX7_made 86 = .ok (.aaload, 1) := by decide +kernel
theorem dX7_made_87 : decode cX7_made 87 = .ok (.iload 4, 2) := by decide +kernel
theorem dX7_made_89 : decode cX7_made 89 = .ok (.aload_n 1, 1) := by decide +kernel
theorem dX7_made_90 : decode cX7_made 90 = .ok (.iload 4, 2) := by decide +kernel
theorem dX7_made_92 : decode cX7_made 92 = .ok (.iaload, 1) := by decide +kernel
theorem dX7_made_93 : decode cX7_made 93 = .ok (.iastore, 1) := by decide +kernel
theorem dX7_made_94 : decode cX7_made 94 = .ok (.iinc 4 1, 3) := by decide +kernel
theorem dX7_made_97 : decode cX7_made 97 = .ok (.goto (-26), 3) := by decide +kernel
theorem dX7_made_100 : decode cX7_made 100 = .ok (.aload_n 0, 1) := by decide +kernel
theorem dX7_made_101 : decode cX7_made 101 = .ok (.getfield 14, 3) := by decide +kernel
theorem dX7_made_104 : decode cX7_made 104 = .ok (.aload_n 0, 1) := by decide +kernel
theorem dX7_made_105 : decode cX7_made 105 = .ok (.getfield 21, 3) := by decide +kernel
theorem dX7_made_108 : decode cX7_made 108 = .ok (.iload_n 2, 1) := by decide +kernel
theorem dX7_made_109 : decode cX7_made 109 = .ok (.iastore, 1) := by decide +kernel
theorem dX7_made_110 : decode cX7_made 110 = .ok (.aload_n 0, 1) := by decide +kernel
theorem dX7_made_111 : decode cX7_made 111 = .ok (.getfield 18, 3) := by decide +kernel
theorem dX7_made_114 : decode cX7_made 114 = .ok (.aload_n 0, 1) := by decide +kernel
theorem dX7_made_115 : decode cX7_made 115 = .ok (.getfield 21, 3) := by decide +kernel
theorem dX7_made_118 : decode cX7_made 118 = .ok (.iload_n 3, 1) := by decide +kernel
theorem dX7_made_119 : decode cX7_made 119 = .ok (.iastore, 1) := by decide +kernel
theorem dX7_made_120 : decode cX7_made 120 = .ok (.aload_n 0, 1) := by decide +kernel
theorem dX7_made_121 : decode cX7_made 121 = .ok (.dup, 1) := by decide +kernel
theorem dX7_made_122 : decode cX7_made 122 = .ok (.getfield 21, 3) := by decide +kernel
theorem dX7_made_125 : decode cX7_made 125 = .ok (.iconst 1, 1) := by decide +kernel
theorem dX7_made_126 : decode cX7_made 126 = .ok (.iadd, 1) := by decide +kernel
theorem dX7_made_127 : decode cX7_made 127 = .ok (.putfield 21, 3) := by decide +kernel
theorem dX7_made_130 : decode cX7_made 130 = .ok (.aload_n 0, 1) := by decide +kernel
theorem dX7_made_131 : decode cX7_made 131 = .ok (.getfield 21, 3) := by decide +kernel
theorem dX7_made_134 : decode cX7_made 134 = .ok (.iconst 1, 1) := by decide +kernel
theorem dX7_made_135 : decode cX7_made 135 = .ok (.isub, 1) := by decide +kernel
theorem dX7_made_136 : decode cX7_made 136 = .ok (.ireturn, 1) := by decide +kernel
theorem dX7_becomes_0 : decode cX7_becomes 0 = .ok (.aload_n 0, 1) := by decide +kernel
theorem dX7_becomes_1 : decode cX7_becomes 1 = .ok (.getfield 25, 3) := by decide +kernel
theorem dX7_becomes_4 : decode cX7_becomes 4 = .ok (.aload_n 0, 1) := by decide +kernel
theorem dX7_becomes_5 : decode cX7_becomes 5 = .ok (.getfield 95, 3) := by decide +kernel
theorem dX7_becomes_8 : decode cX7_becomes 8 = .ok (.iload_n 1, 1) := by decide +kernel
theorem dX7_becomes_9 : decode cX7_becomes 9 = .ok (.iastore, 1) := by decide +kernel
theorem dX7_becomes_10 : decode cX7_becomes 10 = .ok (.iconst 0, 1) := by decide +kernel
theorem dX7_becomes_11 : decode cX7_becomes 11 = .ok (.istore_n 2, 1) := by decide +kernel
theorem dX7_becomes_12 : decode cX7_becomes 12 = .ok (.iload_n 2, 1) := by decide +kernel
theorem dX7_becomes_13 : decode cX7_becomes 13 = .ok (.bipush 8, 2) := by decide +kernel
theorem dX7_becomes_15 : decode cX7_becomes 15 = .ok (.if_icmp .ge 23, 3) := by decide +kernel
theorem dX7_becomes_18 : decode cX7_becomes 18 = .ok (.aload_n 0, 1) := by decide +kernel
theorem dX7_becomes_19 : decode cX7_becomes 19 = .ok (.getfield 28, 3) := by decide +kernel
theorem dX7_becomes_22 : decode cX7_becomes 22 = .ok (.iload_n 2, 1) := by decide +kernel
theorem dX7_becomes_23 : decode cX7_becomes 23 = .ok (.aload_n 0, 1) := by decide +kernel
theorem dX7_becomes_24 : decode cX7_becomes 24 = .ok (.getfield 11, 3) := by decide +kernel
theorem dX7_becomes_27 : decode cX7_becomes 27 = .ok (.iload_n 1, 1) := by decide +kernel
theorem dX7_becomes_28 : decode cX7_becomes 28 = .ok (.aaload, 1) := by decide +kernel
theorem dX7_becomes_29 : decode cX7_becomes 29 = .ok (.iload_n 2, 1) := by decide +kernel
theorem dX7_becomes_30 : decode cX7_becomes 30 = .ok (.iaload, 1) := by decide +kernel
theorem dX7_becomes_31 : decode cX7_becomes 31 = .ok (.iastore, 1) := by decide +kernel
theorem dX7_becomes_32 : decode cX7_becomes 32 = .ok (.iinc 2 1, 3) := by decide +kernel
theorem dX7_becomes_35 : decode cX7_becomes 35 = .ok (.goto (-23), 3) := by decide +kernel
theorem dX7_becomes_38 : decode cX7_becomes 38 = .ok (.return_, 1) := by decide +kernel
theorem dX7_commit_0 : decode cX7_commit 0 = .ok (.aload_n 0, 1) := by decide +kernel
theorem dX7_commit_1 : decode cX7_commit 1 = .ok (.iconst 0, 1) := by decide +kernel
theorem dX7_commit_2 : decode cX7_commit 2 = .ok (.putfield 77, 3) := by decide +kernel
theorem dX7_commit_5 : decode cX7_commit 5 = .ok (.aload_n 0, 1) := by decide +kernel
theorem dX7_commit_6 : decode cX7_commit 6 = .ok (.invokevirtual 98, 3) := by decide +kernel
theorem dX7_commit_9 : decode cX7_commit 9 = .ok (.ifCond .ne 9, 3) := by decide +kernel
theorem dX7_commit_12 : decode cX7_commit 12 = .ok (.aload_n 0, 1) := by decide +kernel
theorem dX7_commit_13 : decode cX7_commit 13 = .ok (.iconst 1, 1) := by decide +kernel
theorem dX7_commit_14 : decode cX7_commit 14 = .ok (.invokevirtual 91, 3) := by decide +kernel
theorem dX7_commit_17 : decode cX7_commit 17 = .ok (.ireturn, 1) := by decide +kernel
theorem dX7_commit_18 : decode cX7_commit 18 = .ok (.aload_n 0, 1) := by decide +kernel
theorem dX7_commit_19 : decode cX7_commit 19 = .ok (.aload_n 0, 1) := by decide +kernel
theorem dX7_commit_20 : decode cX7_commit 20 = .ok (.getfield 28, 3) := by decide +kernel
theorem dX7_commit_23 : decode cX7_commit 23 = .ok (.aload_n 0, 1) := by decide +kernel
theorem dX7_commit_24 : decode cX7_commit 24 = .ok (.getfield 25, 3) := by decide +kernel
theorem dX7_commit_27 : decode cX7_commit 27 = .ok (.aload_n 0, 1) := by decide +kernel
theorem dX7_commit_28 : decode cX7_commit 28 = .ok (.getfield 95, 3) := by decide +kernel
theorem dX7_commit_31 : decode cX7_commit 31 = .ok (.iaload, 1) := by decide +kernel
theorem dX7_commit_32 : decode cX7_commit 32 = .ok (.iconst (-1), 1) := by decide +kernel
theorem dX7_commit_33 : decode cX7_commit 33 = .ok (.invokevirtual 106, 3) := by decide +kernel
theorem dX7_commit_36 : decode cX7_commit 36 = .ok (.istore_n 1, 1) := by decide +kernel
theorem dX7_commit_37 : decode cX7_commit 37 = .ok (.iload_n 1, 1) := by decide +kernel
theorem dX7_commit_38 : decode cX7_commit 38 = .ok (.iconst (-1), 1) := by decide +kernel
theorem dX7_commit_39 : decode cX7_commit 39 = .ok (.if_icmp .ne 9, 3) := by decide +kernel
theorem dX7_commit_42 : decode cX7_commit 42 = .ok (.aload_n 0, 1) := by decide +kernel
theorem dX7_commit_43 : decode cX7_commit 43 = .ok (.iconst 1, 1) := by decide +kernel
theorem dX7_commit_44 : decode cX7_commit 44 = .ok (.invokevirtual 91, 3) := by decide +kernel
theorem dX7_commit_47 : decode cX7_commit 47 = .ok (.ireturn, 1) := by decide +kernel
theorem dX7_commit_48 : decode cX7_commit 48 = .ok (.aload_n 0, 1) := by decide +kernel
theorem dX7_commit_49 : decode cX7_commit 49 = .ok (.getfield 25, 3) := by decide +kernel
theorem dX7_commit_52 : decode cX7_commit 52 = .ok (.aload_n 0, 1) := by decide +kernel
theorem dX7_commit_53 : decode cX7_commit 53 = .ok (.getfield 95, 3) := by decide +kernel
theorem dX7_commit_56 : decode cX7_commit 56 = .ok (.iload_n 1, 1) := by decide +kernel
theorem dX7_commit_57 : decode cX7_commit 57 = .ok (.iastore, 1) := by decide +kernel
theorem dX7_commit_58 : decode cX7_commit 58 = .ok (.iload_n 1, 1) := by decide +kernel
theorem dX7_commit_59 : decode cX7_commit 59 = .ok (.ireturn, 1) := by decide +kernel
theorem dX7_branch_0 : decode cX7_branch 0 = .ok (.aload_n 0, 1) := by decide +kernel
theorem dX7_branch_1 : decode cX7_branch 1 = .ok (.iload_n 1, 1) := by decide +kernel
theorem dX7_branch_2 : decode cX7_branch 2 = .ok (.iconst 0, 1) := by decide +kernel
theorem dX7_branch_3 : decode cX7_branch 3 = .ok (.iconst 4, 1) := by decide +kernel
theorem dX7_branch_4 : decode cX7_branch 4 = .ok (.invokestatic 80, 3) := by decide +kernel
theorem dX7_branch_7 : decode cX7_branch 7 = .ok (.ifCond .ne 7, 3) := by decide +kernel
theorem dX7_branch_10 : decode cX7_branch 10 = .ok (.iconst 1, 1) := by decide +kernel
theorem dX7_branch_11 : decode cX7_branch 11 = .ok (.goto 18, 3) := by decide +kernel
theorem dX7_branch_14 : decode cX7_branch 14 = .ok (.aload_n 0, 1) := by decide +kernel
theorem dX7_branch_15 : decode cX7_branch 15 = .ok (.getfield 25, 3) := by decide +kernel
theorem dX7_branch_18 : decode cX7_branch 18 = .ok (.iload_n 1, 1) := by decide +kernel
theorem dX7_branch_19 : decode cX7_branch 19 = .ok (.iaload, 1) := by decide +kernel
theorem dX7_branch_20 : decode cX7_branch 20 = .ok (.iconst (-1), 1) := by decide +kernel
theorem dX7_branch_21 : decode cX7_branch 21 = .ok (.if_icmp .eq 7, 3) := by decide +kernel
theorem dX7_branch_24 : decode cX7_branch 24 = .ok (.iconst 2, 1) := by decide +kernel
theorem dX7_branch_25 : decode cX7_branch 25 = .ok (.goto 4, 3) := by decide +kernel
theorem dX7_branch_28 : decode cX7_branch 28 = .ok (.iconst 0, 1) := by decide +kernel
theorem dX7_branch_29 : decode cX7_branch 29 = .ok (.putfield 77, 3) := by decide +kernel
theorem dX7_branch_32 : decode cX7_branch 32 = .ok (.aload_n 0, 1) := by decide +kernel
theorem dX7_branch_33 : decode cX7_branch 33 = .ok (.getfield 77, 3) := by decide +kernel
theorem dX7_branch_36 : decode cX7_branch 36 = .ok (.ifCond .le 5, 3) := by decide +kernel
theorem dX7_branch_39 : decode cX7_branch 39 = .ok (.iconst 0, 1) := by decide +kernel
theorem dX7_branch_40 : decode cX7_branch 40 = .ok (.ireturn, 1) := by decide +kernel
theorem dX7_branch_41 : decode cX7_branch 41 = .ok (.aload_n 0, 1) := by decide +kernel
theorem dX7_branch_42 : decode cX7_branch 42 = .ok (.getfield 25, 3) := by decide +kernel
theorem dX7_branch_45 : decode cX7_branch 45 = .ok (.iload_n 1, 1) := by decide +kernel
theorem dX7_branch_46 : decode cX7_branch 46 = .ok (.aload_n 0, 1) := by decide +kernel
theorem dX7_branch_47 : decode cX7_branch 47 = .ok (.getfield 25, 3) := by decide +kernel
theorem dX7_branch_50 : decode cX7_branch 50 = .ok (.aload_n 0, 1) := by decide +kernel
theorem dX7_branch_51 : decode cX7_branch 51 = .ok (.getfield 95, 3) := by decide +kernel
theorem dX7_branch_54 : decode cX7_branch 54 = .ok (.iaload, 1) := by decide +kernel
theorem dX7_branch_55 : decode cX7_branch 55 = .ok (.iastore, 1) := by decide +kernel
theorem dX7_branch_56 : decode cX7_branch 56 = .ok (.aload_n 0, 1) := by decide +kernel
theorem dX7_branch_57 : decode cX7_branch 57 = .ok (.getfield 25, 3) := by decide +kernel
theorem dX7_branch_60 : decode cX7_branch 60 = .ok (.iload_n 1, 1) := by decide +kernel
theorem dX7_branch_61 : decode cX7_branch 61 = .ok (.iaload, 1) := by decide +kernel
theorem dX7_branch_62 : decode cX7_branch 62 = .ok (.ireturn, 1) := by decide +kernel
theorem dX7_isNone_0 : decode cX7_isNone 0 = .ok (.aload_n 0, 1) := by decide +kernel
theorem dX7_isNone_1 : decode cX7_isNone 1 = .ok (.iload_n 1, 1) := by decide +kernel
theorem dX7_isNone_2 : decode cX7_isNone 2 = .ok (.iconst 0, 1) := by decide +kernel
theorem dX7_isNone_3 : decode cX7_isNone 3 = .ok (.iconst 4, 1) := by decide +kernel
theorem dX7_isNone_4 : decode cX7_isNone 4 = .ok (.invokestatic 80, 3) := by decide +kernel
theorem dX7_isNone_7 : decode cX7_isNone 7 = .ok (.ifCond .ne 7, 3) := by decide +kernel
theorem dX7_isNone_10 : decode cX7_isNone 10 = .ok (.iconst 1, 1) := by decide +kernel
theorem dX7_isNone_11 : decode cX7_isNone 11 = .ok (.goto 18, 3) := by decide +kernel
theorem dX7_isNone_14 : decode cX7_isNone 14 = .ok (.aload_n 0, 1) := by decide +kernel
theorem dX7_isNone_15 : decode cX7_isNone 15 = .ok (.getfield 25, 3) := by decide +kernel
theorem dX7_isNone_18 : decode cX7_isNone 18 = .ok (.iload_n 1, 1) := by decide +kernel
theorem dX7_isNone_19 : decode cX7_isNone 19 = .ok (.iaload, 1) := by decide +kernel
theorem dX7_isNone_20 : decode cX7_isNone 20 = .ok (.iconst (-1), 1) := by decide +kernel
theorem dX7_isNone_21 : decode cX7_isNone 21 = .ok (.if_icmp .ne 7, 3) := by decide +kernel
theorem dX7_isNone_24 : decode cX7_isNone 24 = .ok (.iconst 2, 1) := by decide +kernel
theorem dX7_isNone_25 : decode cX7_isNone 25 = .ok (.goto 4, 3) := by decide +kernel
theorem dX7_isNone_28 : decode cX7_isNone 28 = .ok (.iconst 0, 1) := by decide +kernel
theorem dX7_isNone_29 : decode cX7_isNone 29 = .ok (.putfield 77, 3) := by decide +kernel
theorem dX7_isNone_32 : decode cX7_isNone 32 = .ok (.aload_n 0, 1) := by decide +kernel
theorem dX7_isNone_33 : decode cX7_isNone 33 = .ok (.getfield 77, 3) := by decide +kernel
theorem dX7_isNone_36 : decode cX7_isNone 36 = .ok (.ifCond .le 7, 3) := by decide +kernel
theorem dX7_isNone_39 : decode cX7_isNone 39 = .ok (.iconst 1, 1) := by decide +kernel
theorem dX7_isNone_40 : decode cX7_isNone 40 = .ok (.goto 4, 3) := by decide +kernel
theorem dX7_isNone_43 : decode cX7_isNone 43 = .ok (.iconst 0, 1) := by decide +kernel
theorem dX7_isNone_44 : decode cX7_isNone 44 = .ok (.ireturn, 1) := by decide +kernel
theorem dX7_checkOut_0 : decode cX7_checkOut 0 = .ok (.aload_n 0, 1) := by decide +kernel
theorem dX7_checkOut_1 : decode cX7_checkOut 1 = .ok (.iload_n 1, 1) := by decide +kernel
theorem dX7_checkOut_2 : decode cX7_checkOut 2 = .ok (.invokevirtual 110, 3) := by decide +kernel
theorem dX7_checkOut_5 : decode cX7_checkOut 5 = .ok (.ifCond .eq 5, 3) := by decide +kernel
theorem dX7_checkOut_8 : decode cX7_checkOut 8 = .ok (.iconst 0, 1) := by decide +kernel
theorem dX7_checkOut_9 : decode cX7_checkOut 9 = .ok (.ireturn, 1) := by decide +kernel
theorem dX7_checkOut_10 : decode cX7_checkOut 10 = .ok (.aload_n 0, 1) := by decide +kernel
theorem dX7_checkOut_11 : decode cX7_checkOut 11 = .ok (.invokevirtual 98, 3) := by decide +kernel
theorem dX7_checkOut_14 : decode cX7_checkOut 14 = .ok (.ifCond .le 9, 3) := by decide +kernel
theorem dX7_checkOut_17 : decode cX7_checkOut 17 = .ok (.aload_n 0, 1) := by decide +kernel
theorem dX7_checkOut_18 : decode cX7_checkOut 18 = .ok (.iconst 3, 1) := by decide +kernel
theorem dX7_checkOut_19 : decode cX7_checkOut 19 = .ok (.invokevirtual 91, 3) := by decide +kernel
theorem dX7_checkOut_22 : decode cX7_checkOut 22 = .ok (.ireturn, 1) := by decide +kernel
theorem dX7_checkOut_23 : decode cX7_checkOut 23 = .ok (.aload_n 0, 1) := by decide +kernel
theorem dX7_checkOut_24 : decode cX7_checkOut 24 = .ok (.iload_n 1, 1) := by decide +kernel
theorem dX7_checkOut_25 : decode cX7_checkOut 25 = .ok (.putfield 95, 3) := by decide +kernel
theorem dX7_checkOut_28 : decode cX7_checkOut 28 = .ok (.aload_n 0, 1) := by decide +kernel
theorem dX7_checkOut_29 : decode cX7_checkOut 29 = .ok (.aload_n 0, 1) := by decide +kernel
theorem dX7_checkOut_30 : decode cX7_checkOut 30 = .ok (.getfield 25, 3) := by decide +kernel
theorem dX7_checkOut_33 : decode cX7_checkOut 33 = .ok (.iload_n 1, 1) := by decide +kernel
theorem dX7_checkOut_34 : decode cX7_checkOut 34 = .ok (.iaload, 1) := by decide +kernel
theorem dX7_checkOut_35 : decode cX7_checkOut 35 = .ok (.invokevirtual 113, 3) := by decide +kernel
theorem dX7_checkOut_38 : decode cX7_checkOut 38 = .ok (.aload_n 0, 1) := by decide +kernel
theorem dX7_checkOut_39 : decode cX7_checkOut 39 = .ok (.getfield 25, 3) := by decide +kernel
theorem dX7_checkOut_42 : decode cX7_checkOut 42 = .ok (.iload_n 1, 1) := by decide +kernel
theorem dX7_checkOut_43 : decode cX7_checkOut 43 = .ok (.iaload, 1) := by decide +kernel
theorem dX7_checkOut_44 : decode cX7_checkOut 44 = .ok (.ireturn, 1) := by decide +kernel
theorem dX7_reset_0 : decode cX7_reset 0 = .ok (.aload_n 0, 1) := by decide +kernel
theorem dX7_reset_1 : decode cX7_reset 1 = .ok (.aload_n 0, 1) := by decide +kernel
theorem dX7_reset_2 : decode cX7_reset 2 = .ok (.iload_n 1, 1) := by decide +kernel
theorem dX7_reset_3 : decode cX7_reset 3 = .ok (.invokevirtual 117, 3) := by decide +kernel
theorem dX7_reset_6 : decode cX7_reset 6 = .ok (.ifCond .eq 7, 3) := by decide +kernel
theorem dX7_reset_9 : decode cX7_reset 9 = .ok (.iconst 0, 1) := by decide +kernel
theorem dX7_reset_10 : decode cX7_reset 10 = .ok (.goto 4, 3) := by decide +kernel
theorem dX7_reset_13 : decode cX7_reset 13 = .ok (.iconst 1, 1) := by decide +kernel
theorem dX7_reset_14 : decode cX7_reset 14 = .ok (.putfield 77, 3) := by decide +kernel
theorem dX7_reset_17 : decode cX7_reset 17 = .ok (.aload_n 0, 1) := by decide +kernel
theorem dX7_reset_18 : decode cX7_reset 18 = .ok (.getfield 77, 3) := by decide +kernel
theorem dX7_reset_21 : decode cX7_reset 21 = .ok (.ifCond .le 5, 3) := by decide +kernel
theorem dX7_reset_24 : decode cX7_reset 24 = .ok (.iconst 0, 1) := by decide +kernel
theorem dX7_reset_25 : decode cX7_reset 25 = .ok (.ireturn, 1) := by decide +kernel
theorem dX7_reset_26 : decode cX7_reset 26 = .ok (.aload_n 0, 1) := by decide +kernel
theorem dX7_reset_27 : decode cX7_reset 27 = .ok (.getfield 25, 3) := by decide +kernel
theorem dX7_reset_30 : decode cX7_reset 30 = .ok (.aload_n 0, 1) := by decide +kernel
theorem dX7_reset_31 : decode cX7_reset 31 = .ok (.getfield 95, 3) := by decide +kernel
theorem dX7_reset_34 : decode cX7_reset 34 = .ok (.iaload, 1) := by decide +kernel
theorem dX7_reset_35 : decode cX7_reset 35 = .ok (.istore_n 2, 1) := by decide +kernel
theorem dX7_reset_36 : decode cX7_reset 36 = .ok (.aload_n 0, 1) := by decide +kernel
theorem dX7_reset_37 : decode cX7_reset 37 = .ok (.iload_n 1, 1) := by decide +kernel
theorem dX7_reset_38 : decode cX7_reset 38 = .ok (.invokevirtual 113, 3) := by decide +kernel
theorem dX7_reset_41 : decode cX7_reset 41 = .ok (.iload_n 2, 1) := by decide +kernel
theorem dX7_reset_42 : decode cX7_reset 42 = .ok (.ireturn, 1) := by decide +kernel
theorem dX7_findsAbove_0 : decode cX7_findsAbove 0 = .ok (.iconst 0, 1) := by decide +kernel
theorem dX7_findsAbove_1 : decode cX7_findsAbove 1 = .ok (.istore_n 3, 1) := by decide +kernel
theorem dX7_findsAbove_2 : decode cX7_findsAbove 2 = .ok (.iload_n 3, 1) := by decide +kernel
theorem dX7_findsAbove_3 : decode cX7_findsAbove 3 = .ok (.bipush 60, 2) := by decide +kernel
theorem dX7_findsAbove_5 : decode cX7_findsAbove 5 = .ok (.if_icmp .ge 22, 3) := by decide +kernel
theorem dX7_findsAbove_8 : decode cX7_findsAbove 8 = .ok (.aload_n 2, 1) := by decide +kernel
theorem dX7_findsAbove_9 : decode cX7_findsAbove 9 = .ok (.iload_n 3, 1) := by decide +kernel
theorem dX7_findsAbove_10 : decode cX7_findsAbove 10 = .ok (.iload_n 3, 1) := by decide +kernel
theorem dX7_findsAbove_11 : decode cX7_findsAbove 11 = .ok (.iload_n 1, 1) := by decide +kernel
theorem dX7_findsAbove_12 : decode cX7_findsAbove 12 = .ok (.if_icmp .ne 7, 3) := by decide +kernel
theorem dX7_findsAbove_15 : decode cX7_findsAbove 15 = .ok (.iconst 1, 1) := by decide +kernel
theorem dX7_findsAbove_16 : decode cX7_findsAbove 16 = .ok (.goto 4, 3) := by decide +kernel
theorem dX7_findsAbove_19 : decode cX7_findsAbove 19 = .ok (.iconst 0, 1) := by decide +kernel
theorem dX7_findsAbove_20 : decode cX7_findsAbove 20 = .ok (.bastore, 1) := by decide +kernel
theorem dX7_findsAbove_21 : decode cX7_findsAbove 21 = .ok (.iinc 3 1, 3) := by decide +kernel
theorem dX7_findsAbove_24 : decode cX7_findsAbove 24 = .ok (.goto (-22), 3) := by decide +kernel
theorem dX7_findsAbove_27 : decode cX7_findsAbove 27 = .ok (.iload_n 1, 1) := by decide +kernel
theorem dX7_findsAbove_28 : decode cX7_findsAbove 28 = .ok (.istore_n 3, 1) := by decide +kernel
theorem dX7_findsAbove_29 : decode cX7_findsAbove 29 = .ok (.iload_n 3, 1) := by decide +kernel
theorem dX7_findsAbove_30 : decode cX7_findsAbove 30 = .ok (.ifCond .le 43, 3) := by decide +kernel
theorem dX7_findsAbove_33 : decode cX7_findsAbove 33 = .ok (.aload_n 2, 1) := by decide +kernel
theorem dX7_findsAbove_34 : decode cX7_findsAbove 34 = .ok (.iload_n 3, 1) := by decide +kernel
theorem dX7_findsAbove_35 : decode cX7_findsAbove 35 = .ok (.baload, 1) := by decide +kernel
theorem dX7_findsAbove_36 : decode cX7_findsAbove 36 = .ok (.ifCond .eq 31, 3) := by decide +kernel
theorem dX7_findsAbove_39 : decode cX7_findsAbove 39 = .ok (.aload_n 2, 1) := by decide +kernel
theorem dX7_findsAbove_40 : decode cX7_findsAbove 40 = .ok (.aload_n 0, 1) := by decide +kernel
theorem dX7_findsAbove_41 : decode cX7_findsAbove 41 = .ok (.getfield 14, 3) := by decide +kernel
theorem dX7_findsAbove_44 : decode cX7_findsAbove 44 = .ok (.iload_n 3, 1) := by decide +kernel
theorem dX7_findsAbove_45 : decode cX7_findsAbove 45 = .ok (.iaload, 1) := by decide +kernel
theorem dX7_findsAbove_46 : decode cX7_findsAbove 46 = .ok (.iconst 1, 1) := by decide +kernel
theorem dX7_findsAbove_47 : decode cX7_findsAbove 47 = .ok (.bastore, 1) := by decide +kernel
theorem dX7_findsAbove_48 : decode cX7_findsAbove 48 = .ok (.aload_n 0, 1) := by decide +kernel
theorem dX7_findsAbove_49 : decode cX7_findsAbove 49 = .ok (.getfield 18, 3) := by decide +kernel
theorem dX7_findsAbove_52 : decode cX7_findsAbove 52 = .ok (.iload_n 3, 1) := by decide +kernel
theorem dX7_findsAbove_53 : decode cX7_findsAbove 53 = .ok (.iaload, 1) := by decide +kernel
theorem dX7_findsAbove_54 : decode cX7_findsAbove 54 = .ok (.iconst (-1), 1) := by decide +kernel
theorem dX7_findsAbove_55 : decode cX7_findsAbove 55 = .ok (.if_icmp .eq 12, 3) := by decide +kernel
theorem dX7_findsAbove_58 : decode cX7_findsAbove 58 = .ok (.aload_n 2, 1) := by decide +kernel
theorem dX7_findsAbove_59 : decode cX7_findsAbove 59 = .ok (.aload_n 0, 1) := by decide +kernel
theorem dX7_findsAbove_60 : decode cX7_findsAbove 60 = .ok (.getfield 18, 3) := by decide +kernel
theorem dX7_findsAbove_63 : decode cX7_findsAbove 63 = .ok (.iload_n 3, 1) := by decide +kernel
theorem dX7_findsAbove_64 : decode cX7_findsAbove 64 = .ok (.iaload, 1) := by decide +kernel
theorem dX7_findsAbove_65 : decode cX7_findsAbove 65 = .ok (.iconst 1, 1) := by decide +kernel
theorem dX7_findsAbove_66 : decode cX7_findsAbove 66 = .ok (.bastore, 1) := by decide +kernel
theorem dX7_findsAbove_67 : decode cX7_findsAbove 67 = .ok (.iinc 3 (-1), 3) := by decide +kernel
theorem dX7_findsAbove_70 : decode cX7_findsAbove 70 = .ok (.goto (-41), 3) := by decide +kernel
theorem dX7_findsAbove_73 : decode cX7_findsAbove 73 = .ok (.return_, 1) := by decide +kernel
theorem dX7_isAbove_0 : decode cX7_isAbove 0 = .ok (.aload_n 0, 1) := by decide +kernel
theorem dX7_isAbove_1 : decode cX7_isAbove 1 = .ok (.iload_n 2, 1) := by decide +kernel
theorem dX7_isAbove_2 : decode cX7_isAbove 2 = .ok (.aload_n 0, 1) := by decide +kernel
theorem dX7_isAbove_3 : decode cX7_isAbove 3 = .ok (.getfield 65, 3) := by decide +kernel
theorem dX7_isAbove_6 : decode cX7_isAbove 6 = .ok (.invokevirtual 120, 3) := by decide +kernel
theorem dX7_isAbove_9 : decode cX7_isAbove 9 = .ok (.aload_n 0, 1) := by decide +kernel
theorem dX7_isAbove_10 : decode cX7_isAbove 10 = .ok (.getfield 65, 3) := by decide +kernel
theorem dX7_isAbove_13 : decode cX7_isAbove 13 = .ok (.iload_n 1, 1) := by decide +kernel
theorem dX7_isAbove_14 : decode cX7_isAbove 14 = .ok (.baload, 1) := by decide +kernel
theorem dX7_isAbove_15 : decode cX7_isAbove 15 = .ok (.ireturn, 1) := by decide +kernel
theorem dX7_findsBases_0 : decode cX7_findsBases 0 = .ok (.aload_n 0, 1) := by decide +kernel
theorem dX7_findsBases_1 : decode cX7_findsBases 1 = .ok (.iload_n 1, 1) := by decide +kernel
theorem dX7_findsBases_2 : decode cX7_findsBases 2 = .ok (.aload_n 0, 1) := by decide +kernel
theorem dX7_findsBases_3 : decode cX7_findsBases 3 = .ok (.getfield 65, 3) := by decide +kernel
theorem dX7_findsBases_6 : decode cX7_findsBases 6 = .ok (.invokevirtual 120, 3) := by decide +kernel
theorem dX7_findsBases_9 : decode cX7_findsBases 9 = .ok (.aload_n 0, 1) := by decide +kernel
theorem dX7_findsBases_10 : decode cX7_findsBases 10 = .ok (.iload_n 2, 1) := by decide +kernel
theorem dX7_findsBases_11 : decode cX7_findsBases 11 = .ok (.aload_n 0, 1) := by decide +kernel
theorem dX7_findsBases_12 : decode cX7_findsBases 12 = .ok (.getfield 68, 3) := by decide +kernel
theorem dX7_findsBases_15 : decode cX7_findsBases 15 = .ok (.invokevirtual 120, 3) := by decide +kernel
theorem dX7_findsBases_18 : decode cX7_findsBases 18 = .ok (.iconst 0, 1) := by decide +kernel
theorem dX7_findsBases_19 : decode cX7_findsBases 19 = .ok (.istore_n 3, 1) := by decide +kernel
theorem dX7_findsBases_20 : decode cX7_findsBases 20 = .ok (.iload_n 3, 1) := by decide +kernel
theorem dX7_findsBases_21 : decode cX7_findsBases 21 = .ok (.bipush 60, 2) := by decide +kernel
theorem dX7_findsBases_23 : decode cX7_findsBases 23 = .ok (.if_icmp .ge 38, 3) := by decide +kernel
theorem dX7_findsBases_26 : decode cX7_findsBases 26 = .ok (.aload_n 0, 1) := by decide +kernel
theorem dX7_findsBases_27 : decode cX7_findsBases 27 = .ok (.getfield 49, 3) := by decide +kernel
theorem dX7_findsBases_30 : decode cX7_findsBases 30 = .ok (.iload_n 3, 1) := by decide +kernel
theorem dX7_findsBases_31 : decode cX7_findsBases 31 = .ok (.aload_n 0, 1) := by decide +kernel
theorem dX7_findsBases_32 : decode cX7_findsBases 32 = .ok (.getfield 65, 3) := by decide +kernel
theorem dX7_findsBases_35 : decode cX7_findsBases 35 = .ok (.iload_n 3, 1) := by decide +kernel
theorem dX7_findsBases_36 : decode cX7_findsBases 36 = .ok (.baload, 1) := by decide +kernel
theorem dX7_findsBases_37 : decode cX7_findsBases 37 = .ok (.ifCond .eq 16, 3) := by decide +kernel
theorem dX7_findsBases_40 : decode cX7_findsBases 40 = .ok (.aload_n 0, 1) := by decide +kernel
theorem dX7_findsBases_41 : decode cX7_findsBases 41 = .ok (.getfield 68, 3) := by decide +kernel
theorem dX7_findsBases_44 : decode cX7_findsBases 44 = .ok (.iload_n 3, 1) := by decide +kernel
theorem dX7_findsBases_45 : decode cX7_findsBases 45 = .ok (.baload, 1) := by decide +kernel
theorem dX7_findsBases_46 : decode cX7_findsBases 46 = .ok (.ifCond .eq 7, 3) := by decide +kernel
theorem dX7_findsBases_49 : decode cX7_findsBases 49 = .ok (.iconst 1, 1) := by decide +kernel
theorem dX7_findsBases_50 : decode cX7_findsBases 50 = .ok (.goto 4, 3) := by decide +kernel
theorem dX7_findsBases_53 : decode cX7_findsBases 53 = .ok (.iconst 0, 1) := by decide +kernel
theorem dX7_findsBases_54 : decode cX7_findsBases 54 = .ok (.bastore, 1) := by decide +kernel
theorem dX7_findsBases_55 : decode cX7_findsBases 55 = .ok (.iinc 3 1, 3) := by decide +kernel
theorem dX7_findsBases_58 : decode cX7_findsBases 58 = .ok (.goto (-38), 3) := by decide +kernel
theorem dX7_findsBases_61 : decode cX7_findsBases 61 = .ok (.iconst 0, 1) := by decide +kernel
theorem dX7_findsBases_62 : decode cX7_findsBases 62 = .ok (.istore_n 3, 1) := by decide +kernel
theorem dX7_findsBases_63 : decode cX7_findsBases 63 = .ok (.iconst 0, 1) := by decide +kernel
theorem dX7_findsBases_64 : decode cX7_findsBases 64 = .ok (.istore 4, 2) := by decide +kernel
theorem dX7_findsBases_66 : decode cX7_findsBases 66 = .ok (.iload 4, 2) := by decide +kernel
theorem dX7_findsBases_68 : decode cX7_findsBases 68 = .ok (.bipush 60, 2) := by decide +kernel
theorem dX7_findsBases_70 : decode cX7_findsBases 70 = .ok (.if_icmp .ge 103, 3) := by decide +kernel
theorem dX7_findsBases_73 : decode cX7_findsBases 73 = .ok (.aload_n 0, 1) := by decide +kernel
theorem dX7_findsBases_74 : decode cX7_findsBases 74 = .ok (.getfield 49, 3) := by decide +kernel
theorem dX7_findsBases_77 : decode cX7_findsBases 77 = .ok (.iload 4, 2) := by decide +kernel
theorem dX7_findsBases_79 : decode cX7_findsBases 79 = .ok (.baload, 1) := by decide +kernel
theorem dX7_findsBases_80 : decode cX7_findsBases 80 = .ok (.istore 5, 2) := by decide +kernel
theorem dX7_findsBases_82 : decode cX7_findsBases 82 = .ok (.iload 4, 2) := by decide +kernel
theorem dX7_findsBases_84 : decode cX7_findsBases 84 = .ok (.iconst 1, 1) := by decide +kernel
theorem dX7_findsBases_85 : decode cX7_findsBases 85 = .ok (.iadd, 1) := by decide +kernel
theorem dX7_findsBases_86 : decode cX7_findsBases 86 = .ok (.istore 6, 2) := by decide +kernel
theorem dX7_findsBases_88 : decode cX7_findsBases 88 = .ok (.iload 6, 2) := by decide +kernel
theorem dX7_findsBases_90 : decode cX7_findsBases 90 = .ok (.aload_n 0, 1) := by decide +kernel
theorem dX7_findsBases_91 : decode cX7_findsBases 91 = .ok (.getfield 21, 3) := by decide +kernel
theorem dX7_findsBases_94 : decode cX7_findsBases 94 = .ok (.if_icmp .ge 51, 3) := by decide +kernel
theorem dX7_findsBases_97 : decode cX7_findsBases 97 = .ok (.iload 5, 2) := by decide +kernel
theorem dX7_findsBases_99 : decode cX7_findsBases 99 = .ok (.ifCond .eq 46, 3) := by decide +kernel
theorem dX7_findsBases_102 : decode cX7_findsBases 102 = .ok (.aload_n 0, 1) := by decide +kernel
theorem dX7_findsBases_103 : decode cX7_findsBases 103 = .ok (.getfield 49, 3) := by decide +kernel
theorem dX7_findsBases_106 : decode cX7_findsBases 106 = .ok (.iload 6, 2) := by decide +kernel
theorem dX7_findsBases_108 : decode cX7_findsBases 108 = .ok (.baload, 1) := by decide +kernel
theorem dX7_findsBases_109 : decode cX7_findsBases 109 = .ok (.ifCond .eq 30, 3) := by decide +kernel
theorem dX7_findsBases_112 : decode cX7_findsBases 112 = .ok (.aload_n 0, 1) := by decide +kernel
theorem dX7_findsBases_113 : decode cX7_findsBases 113 = .ok (.iload 6, 2) := by decide +kernel
theorem dX7_findsBases_115 : decode cX7_findsBases 115 = .ok (.aload_n 0, 1) := by decide +kernel
theorem dX7_findsBases_116 : decode cX7_findsBases 116 = .ok (.getfield 65, 3) := by decide +kernel
theorem dX7_findsBases_119 : decode cX7_findsBases 119 = .ok (.invokevirtual 120, 3) := by decide +kernel
theorem dX7_findsBases_122 : decode cX7_findsBases 122 = .ok (.aload_n 0, 1) := by decide +kernel
theorem dX7_findsBases_123 : decode cX7_findsBases 123 = .ok (.getfield 65, 3) := by decide +kernel
theorem dX7_findsBases_126 : decode cX7_findsBases 126 = .ok (.iload 4, 2) := by decide +kernel
theorem dX7_findsBases_128 : decode cX7_findsBases 128 = .ok (.baload, 1) := by decide +kernel
theorem dX7_findsBases_129 : decode cX7_findsBases 129 = .ok (.ifCond .ne 7, 3) := by decide +kernel
theorem dX7_findsBases_132 : decode cX7_findsBases 132 = .ok (.iconst 1, 1) := by decide +kernel
theorem dX7_findsBases_133 : decode cX7_findsBases 133 = .ok (.goto 4, 3) := by decide +kernel
theorem dX7_findsBases_136 : decode cX7_findsBases 136 = .ok (.iconst 0, 1) := by decide +kernel
theorem dX7_findsBases_137 : decode cX7_findsBases 137 = .ok (.istore 5, 2) := by decide +kernel
theorem dX7_findsBases_139 : decode cX7_findsBases 139 = .ok (.iinc 6 1, 3) := by decide +kernel
theorem dX7_findsBases_142 : decode cX7_findsBases 142 = .ok (.goto (-54), 3) := by decide +kernel
theorem dX7_findsBases_145 : decode cX7_findsBases 145 = .ok (.aload_n 0, 1) := by decide +kernel
theorem dX7_findsBases_146 : decode cX7_findsBases 146 = .ok (.getfield 71, 3) := by decide +kernel
theorem dX7_findsBases_149 : decode cX7_findsBases 149 = .ok (.iload 4, 2) := by decide +kernel
theorem dX7_findsBases_151 : decode cX7_findsBases 151 = .ok (.iload 5, 2) := by decide +kernel
theorem dX7_findsBases_153 : decode cX7_findsBases 153 = .ok (.bastore, 1) := by decide +kernel
theorem dX7_findsBases_154 : decode cX7_findsBases 154 = .ok (.iload_n 3, 1) := by decide +kernel
theorem dX7_findsBases_155 : decode cX7_findsBases 155 = .ok (.iload 5, 2) := by decide +kernel
theorem dX7_findsBases_157 : decode cX7_findsBases 157 = .ok (.ifCond .eq 7, 3) := by decide +kernel
theorem dX7_findsBases_160 : decode cX7_findsBases 160 = .ok (.iconst 1, 1) := by decide +kernel
theorem dX7_findsBases_161 : decode cX7_findsBases 161 = .ok (.goto 4, 3) := by decide +kernel
theorem dX7_findsBases_164 : decode cX7_findsBases 164 = .ok (.iconst 0, 1) := by decide +kernel
theorem dX7_findsBases_165 : decode cX7_findsBases 165 = .ok (.iadd, 1) := by decide +kernel
theorem dX7_findsBases_166 : decode cX7_findsBases 166 = .ok (.istore_n 3, 1) := by decide +kernel
theorem dX7_findsBases_167 : decode cX7_findsBases 167 = .ok (.iinc 4 1, 3) := by decide +kernel
theorem dX7_findsBases_170 : decode cX7_findsBases 170 = .ok (.goto (-104), 3) := by decide +kernel
theorem dX7_findsBases_173 : decode cX7_findsBases 173 = .ok (.iload_n 3, 1) := by decide +kernel
theorem dX7_findsBases_174 : decode cX7_findsBases 174 = .ok (.ireturn, 1) := by decide +kernel
theorem dX7_bestBase_0 : decode cX7_bestBase 0 = .ok (.aload_n 0, 1) := by decide +kernel
theorem dX7_bestBase_1 : decode cX7_bestBase 1 = .ok (.iload_n 1, 1) := by decide +kernel
theorem dX7_bestBase_2 : decode cX7_bestBase 2 = .ok (.iload_n 2, 1) := by decide +kernel
theorem dX7_bestBase_3 : decode cX7_bestBase 3 = .ok (.invokevirtual 124, 3) := by decide +kernel
theorem dX7_bestBase_6 : decode cX7_bestBase 6 = .ok (.pop, 1) := by decide +kernel
theorem dX7_bestBase_7 : decode cX7_bestBase 7 = .ok (.bipush 59, 2) := by decide +kernel
theorem dX7_bestBase_9 : decode cX7_bestBase 9 = .ok (.istore_n 3, 1) := by decide +kernel
theorem dX7_bestBase_10 : decode cX7_bestBase 10 = .ok (.aload_n 0, 1) := by decide +kernel
theorem dX7_bestBase_11 : decode cX7_bestBase 11 = .ok (.getfield 71, 3) := by decide +kernel
theorem dX7_bestBase_14 : decode cX7_bestBase 14 = .ok (.iload_n 3, 1) := by decide +kernel
theorem dX7_bestBase_15 : decode cX7_bestBase 15 = .ok (.baload, 1) := by decide +kernel
theorem dX7_bestBase_16 : decode cX7_bestBase 16 = .ok (.ifCond .ne 9, 3) := by decide +kernel
theorem dX7_bestBase_19 : decode cX7_bestBase 19 = .ok (.iinc 3 (-1), 3) := by decide +kernel
theorem dX7_bestBase_22 : decode cX7_bestBase 22 = .ok (.goto (-12), 3) := by decide +kernel
theorem dX7_bestBase_25 : decode cX7_bestBase 25 = .ok (.iload_n 3, 1) := by decide +kernel
theorem dX7_bestBase_26 : decode cX7_bestBase 26 = .ok (.ireturn, 1) := by decide +kernel
theorem dX7_line_0 : decode cX7_line 0 = .ok (.iload_n 1, 1) := by decide +kernel
theorem dX7_line_1 : decode cX7_line 1 = .ok (.ifCond .ne 11, 3) := by decide +kernel
theorem dX7_line_4 : decode cX7_line 4 = .ok (.iload_n 0, 1) := by decide +kernel
theorem dX7_line_5 : decode cX7_line 5 = .ok (.sipush 1000, 3) := by decide +kernel
theorem dX7_line_8 : decode cX7_line 8 = .ok (.idiv, 1) := by decide +kernel
theorem dX7_line_9 : decode cX7_line 9 = .ok (.goto 37, 3) := by decide +kernel
theorem dX7_line_12 : decode cX7_line 12 = .ok (.iload_n 1, 1) := by decide +kernel
theorem dX7_line_13 : decode cX7_line 13 = .ok (.iconst 1, 1) := by decide +kernel
theorem dX7_line_14 : decode cX7_line 14 = .ok (.if_icmp .ne 13, 3) := by decide +kernel
theorem dX7_line_17 : decode cX7_line 17 = .ok (.iload_n 0, 1) := by decide +kernel
theorem dX7_line_18 : decode cX7_line 18 = .ok (.bipush 100, 2) := by decide +kernel
theorem dX7_line_20 : decode cX7_line 20 = .ok (.idiv, 1) := by decide +kernel
theorem dX7_line_21 : decode cX7_line 21 = .ok (.bipush 10, 2) := by decide +kernel
theorem dX7_line_23 : decode cX7_line 23 = .ok (.irem, 1) := by decide +kernel
theorem dX7_line_24 : decode cX7_line 24 = .ok (.goto 22, 3) := by decide +kernel
theorem dX7_line_27 : decode cX7_line 27 = .ok (.iload_n 1, 1) := by decide +kernel
theorem dX7_line_28 : decode cX7_line 28 = .ok (.iconst 2, 1) := by decide +kernel
theorem dX7_line_29 : decode cX7_line 29 = .ok (.if_icmp .ne 13, 3) := by decide +kernel
theorem dX7_line_32 : decode cX7_line 32 = .ok (.iload_n 0, 1) := by decide +kernel
theorem dX7_line_33 : decode cX7_line 33 = .ok (.bipush 10, 2) := by decide +kernel
theorem dX7_line_35 : decode cX7_line 35 = .ok (.idiv, 1) := by decide +kernel
theorem dX7_line_36 : decode cX7_line 36 = .ok (.bipush 10, 2) := by decide +kernel
theorem dX7_line_38 : decode cX7_line 38 = .ok (.irem, 1) := by decide +kernel
theorem dX7_line_39 : decode cX7_line 39 = .ok (.goto 7, 3) := by decide +kernel
theorem dX7_line_42 : decode cX7_line 42 = .ok (.iload_n 0, 1) := by decide +kernel
theorem dX7_line_43 : decode cX7_line 43 = .ok (.bipush 10, 2) := by decide +kernel
theorem dX7_line_45 : decode cX7_line 45 = .ok (.irem, 1) := by decide +kernel
theorem dX7_line_46 : decode cX7_line 46 = .ok (.ireturn, 1) := by decide +kernel
theorem dX7_likeness_0 : decode cX7_likeness 0 = .ok (.iconst 0, 1) := by decide +kernel
theorem dX7_likeness_1 : decode cX7_likeness 1 = .ok (.istore_n 2, 1) := by decide +kernel
theorem dX7_likeness_2 : decode cX7_likeness 2 = .ok (.iconst 0, 1) := by decide +kernel
theorem dX7_likeness_3 : decode cX7_likeness 3 = .ok (.istore_n 3, 1) := by decide +kernel
theorem dX7_likeness_4 : decode cX7_likeness 4 = .ok (.iload_n 3, 1) := by decide +kernel
theorem dX7_likeness_5 : decode cX7_likeness 5 = .ok (.iconst 4, 1) := by decide +kernel
theorem dX7_likeness_6 : decode cX7_likeness 6 = .ok (.if_icmp .ge 30, 3) := by decide +kernel
theorem dX7_likeness_9 : decode cX7_likeness 9 = .ok (.iload_n 2, 1) := by decide +kernel
theorem dX7_likeness_10 : decode cX7_likeness 10 = .ok (.iload_n 0, 1) := by decide +kernel
theorem dX7_likeness_11 : decode cX7_likeness 11 = .ok (.iload_n 3, 1) := by decide +kernel
theorem dX7_likeness_12 : decode cX7_likeness 12 = .ok (.invokestatic 128, 3) := by decide +kernel
theorem dX7_likeness_15 : decode cX7_likeness 15 = .ok (.iload_n 1, 1) := by decide +kernel
theorem dX7_likeness_16 : decode cX7_likeness 16 = .ok (.iload_n 3, 1) := by decide +kernel
theorem dX7_likeness_17 : decode cX7_likeness 17 = .ok (.invokestatic 128, 3) := by decide +kernel
theorem dX7_likeness_20 : decode cX7_likeness 20 = .ok (.if_icmp .ne 7, 3) := by decide +kernel
theorem dX7_likeness_23 : decode cX7_likeness 23 = .ok (.iconst 1, 1) := by decide +kernel
theorem dX7_likeness_24 : decode cX7_likeness 24 = .ok (.goto 4, 3) := by decide +kernel
theorem dX7_likeness_27 : decode cX7_likeness 27 = .ok (.iconst 0, 1) := by decide +kernel
theorem dX7_likeness_28 : decode cX7_likeness 28 = .ok (.iadd, 1) := by decide +kernel
theorem dX7_likeness_29 : decode cX7_likeness 29 = .ok (.istore_n 2, 1) := by decide +kernel
theorem dX7_likeness_30 : decode cX7_likeness 30 = .ok (.iinc 3 1, 3) := by decide +kernel
theorem dX7_likeness_33 : decode cX7_likeness 33 = .ok (.goto (-29), 3) := by decide +kernel
theorem dX7_likeness_36 : decode cX7_likeness 36 = .ok (.iload_n 2, 1) := by decide +kernel
theorem dX7_likeness_37 : decode cX7_likeness 37 = .ok (.ireturn, 1) := by decide +kernel
theorem dX7_findsMoves_0 : decode cX7_findsMoves 0 = .ok (.iconst 0, 1) := by decide +kernel
theorem dX7_findsMoves_1 : decode cX7_findsMoves 1 = .ok (.istore 4, 2) := by decide +kernel
theorem dX7_findsMoves_3 : decode cX7_findsMoves 3 = .ok (.iload 4, 2) := by decide +kernel
theorem dX7_findsMoves_5 : decode cX7_findsMoves 5 = .ok (.bipush 8, 2) := by decide +kernel
theorem dX7_findsMoves_7 : decode cX7_findsMoves 7 = .ok (.if_icmp .ge 14, 3) := by decide +kernel
theorem dX7_findsMoves_10 : decode cX7_findsMoves 10 = .ok (.aload_n 3, 1) := by decide +kernel
theorem dX7_findsMoves_11 : decode cX7_findsMoves 11 = .ok (.iload 4, 2) := by decide +kernel
theorem dX7_findsMoves_13 : decode cX7_findsMoves 13 = .ok (.iconst (-1), 1) := by decide +kernel
theorem dX7_findsMoves_14 : decode cX7_findsMoves 14 = .ok (.iastore, 1) := by decide +kernel
theorem dX7_findsMoves_15 : decode cX7_findsMoves 15 = .ok (.iinc 4 1, 3) := by decide +kernel
theorem dX7_findsMoves_18 : decode cX7_findsMoves 18 = .ok (.goto (-15), 3) := by decide +kernel
theorem dX7_findsMoves_21 : decode cX7_findsMoves 21 = .ok (.iconst 4, 1) := by decide +kernel
theorem dX7_findsMoves_22 : decode cX7_findsMoves 22 = .ok (.istore 4, 2) := by decide +kernel
theorem dX7_findsMoves_24 : decode cX7_findsMoves 24 = .ok (.iload 4, 2) := by decide +kernel
theorem dX7_findsMoves_26 : decode cX7_findsMoves 26 = .ok (.iconst 3, 1) := by decide +kernel
theorem dX7_findsMoves_27 : decode cX7_findsMoves 27 = .ok (.if_icmp .lt 136, 3) := by decide +kernel
theorem dX7_findsMoves_30 : decode cX7_findsMoves 30 = .ok (.iconst 0, 1) := by decide +kernel
theorem dX7_findsMoves_31 : decode cX7_findsMoves 31 = .ok (.istore 5, 2) := by decide +kernel
theorem dX7_findsMoves_33 : decode cX7_findsMoves 33 = .ok (.iload 5, 2) := by decide +kernel
theorem dX7_findsMoves_35 : decode cX7_findsMoves 35 = .ok (.bipush 8, 2) := by decide +kernel
theorem dX7_findsMoves_37 : decode cX7_findsMoves 37 = .ok (.if_icmp .ge 120, 3) := by decide +kernel
theorem dX7_findsMoves_40 : decode cX7_findsMoves 40 = .ok (.iconst 0, 1) := by decide +kernel
theorem dX7_findsMoves_41 : decode cX7_findsMoves 41 = .ok (.istore 6, 2) := by decide +kernel
theorem dX7_findsMoves_43 : decode cX7_findsMoves 43 = .ok (.iload 6, 2) := by decide +kernel
theorem dX7_findsMoves_45 : decode cX7_findsMoves 45 = .ok (.bipush 8, 2) := by decide +kernel
theorem dX7_findsMoves_47 : decode cX7_findsMoves 47 = .ok (.if_icmp .ge 104, 3) := by decide +kernel
theorem dX7_findsMoves_50 : decode cX7_findsMoves 50 = .ok (.aload_n 1, 1) := by decide +kernel
theorem dX7_findsMoves_51 : decode cX7_findsMoves 51 = .ok (.iload 5, 2) := by decide +kernel
theorem dX7_findsMoves_53 : decode cX7_findsMoves 53 = .ok (.iaload, 1) := by decide +kernel
theorem dX7_findsMoves_54 : decode cX7_findsMoves 54 = .ok (.iconst (-1), 1) := by decide +kernel
theorem dX7_findsMoves_55 : decode cX7_findsMoves 55 = .ok (.if_icmp .eq 23, 3) := by decide +kernel
theorem dX7_findsMoves_58 : decode cX7_findsMoves 58 = .ok (.aload_n 2, 1) := by decide +kernel
theorem dX7_findsMoves_59 : decode cX7_findsMoves 59 = .ok (.iload 5, 2) := by decide +kernel
theorem dX7_findsMoves_61 : decode cX7_findsMoves 61 = .ok (.iaload, 1) := by decide +kernel
theorem dX7_findsMoves_62 : decode cX7_findsMoves 62 = .ok (.iconst (-1), 1) := by decide +kernel
theorem dX7_findsMoves_63 : decode cX7_findsMoves 63 = .ok (.if_icmp .ne 15, 3) := by decide +kernel
theorem dX7_findsMoves_66 : decode cX7_findsMoves 66 = .ok (.aload_n 3, 1) := by decide +kernel
theorem dX7_findsMoves_67 : decode cX7_findsMoves 67 = .ok (.iload 5, 2) := by decide +kernel
theorem dX7_findsMoves_69 : decode cX7_findsMoves 69 = .ok (.iaload, 1) := by decide +kernel
theorem dX7_findsMoves_70 : decode cX7_findsMoves 70 = .ok (.iconst (-1), 1) := by decide +kernel
theorem dX7_findsMoves_71 : decode cX7_findsMoves 71 = .ok (.if_icmp .ne 7, 3) := by decide +kernel
theorem dX7_findsMoves_74 : decode cX7_findsMoves 74 = .ok (.iconst 1, 1) := by decide +kernel
theorem dX7_findsMoves_75 : decode cX7_findsMoves 75 = .ok (.goto 4, 3) := by decide +kernel
theorem dX7_findsMoves_78 : decode cX7_findsMoves 78 = .ok (.iconst 0, 1) := by decide +kernel
theorem dX7_findsMoves_79 : decode cX7_findsMoves 79 = .ok (.istore 7, 2) := by decide +kernel
theorem dX7_findsMoves_81 : decode cX7_findsMoves 81 = .ok (.aload_n 1, 1) := by decide +kernel
theorem dX7_findsMoves_82 : decode cX7_findsMoves 82 = .ok (.iload 6, 2) := by decide +kernel
theorem dX7_findsMoves_84 : decode cX7_findsMoves 84 = .ok (.iaload, 1) := by decide +kernel
theorem dX7_findsMoves_85 : decode cX7_findsMoves 85 = .ok (.iconst (-1), 1) := by decide +kernel
theorem dX7_findsMoves_86 : decode cX7_findsMoves 86 = .ok (.if_icmp .ne 24, 3) := by decide +kernel
theorem dX7_findsMoves_89 : decode cX7_findsMoves 89 = .ok (.aload_n 2, 1) := by decide +kernel
theorem dX7_findsMoves_90 : decode cX7_findsMoves 90 = .ok (.iload 6, 2) := by decide +kernel
theorem dX7_findsMoves_92 : decode cX7_findsMoves 92 = .ok (.iaload, 1) := by decide +kernel
theorem dX7_findsMoves_93 : decode cX7_findsMoves 93 = .ok (.iconst (-1), 1) := by decide +kernel
theorem dX7_findsMoves_94 : decode cX7_findsMoves 94 = .ok (.if_icmp .eq 16, 3) := by decide +kernel
theorem dX7_findsMoves_97 : decode cX7_findsMoves 97 = .ok (.aload_n 3, 1) := by decide +kernel
theorem dX7_findsMoves_98 : decode cX7_findsMoves 98 = .ok (.iload 6, 2) := by decide +kernel
theorem dX7_findsMoves_100 : decode cX7_findsMoves 100 = .ok (.invokestatic 131, 3) := by decide +kernel
theorem dX7_findsMoves_103 : decode cX7_findsMoves 103 = .ok (.ifCond .ne 7, 3) := by decide +kernel
theorem dX7_findsMoves_106 : decode cX7_findsMoves 106 = .ok (.iconst 1, 1) := by decide +kernel
theorem dX7_findsMoves_107 : decode cX7_findsMoves 107 = .ok (.goto 4, 3) := by decide +kernel
theorem dX7_findsMoves_110 : decode cX7_findsMoves 110 = .ok (.iconst 0, 1) := by decide +kernel
theorem dX7_findsMoves_111 : decode cX7_findsMoves 111 = .ok (.istore 8, 2) := by decide +kernel
theorem dX7_findsMoves_113 : decode cX7_findsMoves 113 = .ok (.iload 7, 2) := by decide +kernel
theorem dX7_findsMoves_115 : decode cX7_findsMoves 115 = .ok (.ifCond .eq 30, 3) := by decide +kernel
theorem dX7_findsMoves_118 : decode cX7_findsMoves 118 = .ok (.iload 8, 2) := by decide +kernel
theorem dX7_findsMoves_120 : decode cX7_findsMoves 120 = .ok (.ifCond .eq 25, 3) := by decide +kernel
theorem dX7_findsMoves_123 : decode cX7_findsMoves 123 = .ok (.aload_n 1, 1) := by decide +kernel
theorem dX7_findsMoves_124 : decode cX7_findsMoves 124 = .ok (.iload 5, 2) := by decide +kernel
theorem dX7_findsMoves_126 : decode cX7_findsMoves 126 = .ok (.iaload, 1) := by decide +kernel
theorem dX7_findsMoves_127 : decode cX7_findsMoves 127 = .ok (.aload_n 2, 1) := by decide +kernel
theorem dX7_findsMoves_128 : decode cX7_findsMoves 128 = .ok (.iload 6, 2) := by decide +kernel
theorem dX7_findsMoves_130 : decode cX7_findsMoves 130 = .ok (.iaload, 1) := by decide +kernel
theorem dX7_findsMoves_131 : decode cX7_findsMoves 131 = .ok (.invokestatic 135, 3) := by decide +kernel
theorem dX7_findsMoves_134 : decode cX7_findsMoves 134 = .ok (.iload 4, 2) := by decide +kernel
theorem dX7_findsMoves_136 : decode cX7_findsMoves 136 = .ok (.if_icmp .ne 9, 3) := by decide +kernel
theorem dX7_findsMoves_139 : decode cX7_findsMoves 139 = .ok (.aload_n 3, 1) := by decide +kernel
theorem dX7_findsMoves_140 : decode cX7_findsMoves 140 = .ok (.iload 5, 2) := by decide +kernel
theorem dX7_findsMoves_142 : decode cX7_findsMoves 142 = .ok (.iload 6, 2) := by decide +kernel
theorem dX7_findsMoves_144 : decode cX7_findsMoves 144 = .ok (.iastore, 1) := by decide +kernel
theorem dX7_findsMoves_145 : decode cX7_findsMoves 145 = .ok (.iinc 6 1, 3) := by decide +kernel
theorem dX7_findsMoves_148 : decode cX7_findsMoves 148 = .ok (.goto (-105), 3) := by decide +kernel
theorem dX7_findsMoves_151 : decode cX7_findsMoves 151 = .ok (.iinc 5 1, 3) := by decide +kernel
theorem dX7_findsMoves_154 : decode cX7_findsMoves 154 = .ok (.goto (-121), 3) := by decide +kernel
theorem dX7_findsMoves_157 : decode cX7_findsMoves 157 = .ok (.iinc 4 (-1), 3) := by decide +kernel
theorem dX7_findsMoves_160 : decode cX7_findsMoves 160 = .ok (.goto (-136), 3) := by decide +kernel
theorem dX7_findsMoves_163 : decode cX7_findsMoves 163 = .ok (.return_, 1) := by decide +kernel
theorem dX7_isTarget_0 : decode cX7_isTarget 0 = .ok (.iconst 0, 1) := by decide +kernel
theorem dX7_isTarget_1 : decode cX7_isTarget 1 = .ok (.istore_n 2, 1) := by decide +kernel
theorem dX7_isTarget_2 : decode cX7_isTarget 2 = .ok (.iload_n 2, 1) := by decide +kernel
theorem dX7_isTarget_3 : decode cX7_isTarget 3 = .ok (.bipush 8, 2) := by decide +kernel
theorem dX7_isTarget_5 : decode cX7_isTarget 5 = .ok (.if_icmp .ge 18, 3) := by decide +kernel
theorem dX7_isTarget_8 : decode cX7_isTarget 8 = .ok (.aload_n 0, 1) := by decide +kernel
theorem dX7_isTarget_9 : decode cX7_isTarget 9 = .ok (.iload_n 2, 1) := by decide +kernel
theorem dX7_isTarget_10 : decode cX7_isTarget 10 = .ok (.iaload, 1) := by decide +kernel
theorem dX7_isTarget_11 : decode cX7_isTarget 11 = .ok (.iload_n 1, 1) := by decide +kernel
theorem dX7_isTarget_12 : decode cX7_isTarget 12 = .ok (.if_icmp .ne 5, 3) := by decide +kernel
theorem dX7_isTarget_15 : decode cX7_isTarget 15 = .ok (.iconst 1, 1) := by decide +kernel
theorem dX7_isTarget_16 : decode cX7_isTarget 16 = .ok (.ireturn, 1) := by decide +kernel
theorem dX7_isTarget_17 : decode cX7_isTarget 17 = .ok (.iinc 2 1, 3) := by decide +kernel
theorem dX7_isTarget_20 : decode cX7_isTarget 20 = .ok (.goto (-18), 3) := by decide +kernel
theorem dX7_isTarget_23 : decode cX7_isTarget 23 = .ok (.iconst 0, 1) := by decide +kernel
theorem dX7_isTarget_24 : decode cX7_isTarget 24 = .ok (.ireturn, 1) := by decide +kernel
theorem dX7_placeOf_0 : decode cX7_placeOf 0 = .ok (.aload_n 0, 1) := by decide +kernel
theorem dX7_placeOf_1 : decode cX7_placeOf 1 = .ok (.iload_n 2, 1) := by decide +kernel
theorem dX7_placeOf_2 : decode cX7_placeOf 2 = .ok (.iaload, 1) := by decide +kernel
theorem dX7_placeOf_3 : decode cX7_placeOf 3 = .ok (.iconst (-1), 1) := by decide +kernel
theorem dX7_placeOf_4 : decode cX7_placeOf 4 = .ok (.if_icmp .eq 7, 3) := by decide +kernel
theorem dX7_placeOf_7 : decode cX7_placeOf 7 = .ok (.iload_n 2, 1) := by decide +kernel
theorem dX7_placeOf_8 : decode cX7_placeOf 8 = .ok (.goto 6, 3) := by decide +kernel
theorem dX7_placeOf_11 : decode cX7_placeOf 11 = .ok (.aload_n 1, 1) := by decide +kernel
theorem dX7_placeOf_12 : decode cX7_placeOf 12 = .ok (.iload_n 2, 1) := by decide +kernel
theorem dX7_placeOf_13 : decode cX7_placeOf 13 = .ok (.iaload, 1) := by decide +kernel
theorem dX7_placeOf_14 : decode cX7_placeOf 14 = .ok (.ireturn, 1) := by decide +kernel
theorem dX7_joined_0 : decode cX7_joined 0 = .ok (.iload_n 1, 1) := by decide +kernel
theorem dX7_joined_1 : decode cX7_joined 1 = .ok (.iload_n 2, 1) := by decide +kernel
theorem dX7_joined_2 : decode cX7_joined 2 = .ok (.if_icmp .ne 7, 3) := by decide +kernel
theorem dX7_joined_5 : decode cX7_joined 5 = .ok (.iload_n 1, 1) := by decide +kernel
theorem dX7_joined_6 : decode cX7_joined 6 = .ok (.goto 23, 3) := by decide +kernel
theorem dX7_joined_9 : decode cX7_joined 9 = .ok (.iload_n 1, 1) := by decide +kernel
theorem dX7_joined_10 : decode cX7_joined 10 = .ok (.iload_n 0, 1) := by decide +kernel
theorem dX7_joined_11 : decode cX7_joined 11 = .ok (.if_icmp .ne 7, 3) := by decide +kernel
theorem dX7_joined_14 : decode cX7_joined 14 = .ok (.iload_n 2, 1) := by decide +kernel
theorem dX7_joined_15 : decode cX7_joined 15 = .ok (.goto 14, 3) := by decide +kernel
theorem dX7_joined_18 : decode cX7_joined 18 = .ok (.iload_n 2, 1) := by decide +kernel
theorem dX7_joined_19 : decode cX7_joined 19 = .ok (.iload_n 0, 1) := by decide +kernel
theorem dX7_joined_20 : decode cX7_joined 20 = .ok (.if_icmp .ne 7, 3) := by decide +kernel
theorem dX7_joined_23 : decode cX7_joined 23 = .ok (.iload_n 1, 1) := by decide +kernel
theorem dX7_joined_24 : decode cX7_joined 24 = .ok (.goto 5, 3) := by decide +kernel
theorem dX7_joined_27 : decode cX7_joined 27 = .ok (.bipush (-2), 2) := by decide +kernel
theorem dX7_joined_29 : decode cX7_joined 29 = .ok (.ireturn, 1) := by decide +kernel
theorem dX7_follows_0 : decode cX7_follows 0 = .ok (.aload_n 2, 1) := by decide +kernel
theorem dX7_follows_1 : decode cX7_follows 1 = .ok (.aload_n 0, 1) := by decide +kernel
theorem dX7_follows_2 : decode cX7_follows 2 = .ok (.getfield 31, 3) := by decide +kernel
theorem dX7_follows_5 : decode cX7_follows 5 = .ok (.iload 4, 2) := by decide +kernel
theorem dX7_follows_7 : decode cX7_follows 7 = .ok (.invokestatic 138, 3) := by decide +kernel
theorem dX7_follows_10 : decode cX7_follows 10 = .ok (.istore 5, 2) := by decide +kernel
theorem dX7_follows_12 : decode cX7_follows 12 = .ok (.aload_n 3, 1) := by decide +kernel
theorem dX7_follows_13 : decode cX7_follows 13 = .ok (.aload_n 0, 1) := by decide +kernel
theorem dX7_follows_14 : decode cX7_follows 14 = .ok (.getfield 34, 3) := by decide +kernel
theorem dX7_follows_17 : decode cX7_follows 17 = .ok (.iload 4, 2) := by decide +kernel
theorem dX7_follows_19 : decode cX7_follows 19 = .ok (.invokestatic 138, 3) := by decide +kernel
theorem dX7_follows_22 : decode cX7_follows 22 = .ok (.istore 6, 2) := by decide +kernel
theorem dX7_follows_24 : decode cX7_follows 24 = .ok (.iload 5, 2) := by decide +kernel
theorem dX7_follows_26 : decode cX7_follows 26 = .ok (.iconst (-1), 1) := by decide +kernel
theorem dX7_follows_27 : decode cX7_follows 27 = .ok (.if_icmp .eq 9, 3) := by decide +kernel
theorem dX7_follows_30 : decode cX7_follows 30 = .ok (.iload 6, 2) := by decide +kernel
theorem dX7_follows_32 : decode cX7_follows 32 = .ok (.iconst (-1), 1) := by decide +kernel
theorem dX7_follows_33 : decode cX7_follows 33 = .ok (.if_icmp .ne 88, 3) := by decide +kernel
theorem dX7_follows_36 : decode cX7_follows 36 = .ok (.iload 5, 2) := by decide +kernel
theorem dX7_follows_38 : decode cX7_follows 38 = .ok (.iload 6, 2) := by decide +kernel
theorem dX7_follows_40 : decode cX7_follows 40 = .ok (.if_icmp .ne 7, 3) := by decide +kernel
theorem dX7_follows_43 : decode cX7_follows 43 = .ok (.iconst 1, 1) := by decide +kernel
theorem dX7_follows_44 : decode cX7_follows 44 = .ok (.goto 4, 3) := by decide +kernel
theorem dX7_follows_47 : decode cX7_follows 47 = .ok (.iconst 0, 1) := by decide +kernel
theorem dX7_follows_48 : decode cX7_follows 48 = .ok (.istore 7, 2) := by decide +kernel
theorem dX7_follows_50 : decode cX7_follows 50 = .ok (.iload 5, 2) := by decide +kernel
theorem dX7_follows_52 : decode cX7_follows 52 = .ok (.iload 4, 2) := by decide +kernel
theorem dX7_follows_54 : decode cX7_follows 54 = .ok (.if_icmp .ne 18, 3) := by decide +kernel
theorem dX7_follows_57 : decode cX7_follows 57 = .ok (.aload_n 2, 1) := by decide +kernel
theorem dX7_follows_58 : decode cX7_follows 58 = .ok (.iload 4, 2) := by decide +kernel
theorem dX7_follows_60 : decode cX7_follows 60 = .ok (.iaload, 1) := by decide +kernel
theorem dX7_follows_61 : decode cX7_follows 61 = .ok (.aload_n 1, 1) := by decide +kernel
theorem dX7_follows_62 : decode cX7_follows 62 = .ok (.iload 4, 2) := by decide +kernel
theorem dX7_follows_64 : decode cX7_follows 64 = .ok (.iaload, 1) := by decide +kernel
theorem dX7_follows_65 : decode cX7_follows 65 = .ok (.if_icmp .ne 7, 3) := by decide +kernel
theorem dX7_follows_68 : decode cX7_follows 68 = .ok (.iconst 1, 1) := by decide +kernel
theorem dX7_follows_69 : decode cX7_follows 69 = .ok (.goto 4, 3) := by decide +kernel
theorem dX7_follows_72 : decode cX7_follows 72 = .ok (.iconst 0, 1) := by decide +kernel
theorem dX7_follows_73 : decode cX7_follows 73 = .ok (.istore 8, 2) := by decide +kernel
theorem dX7_follows_75 : decode cX7_follows 75 = .ok (.iload 6, 2) := by decide +kernel
theorem dX7_follows_77 : decode cX7_follows 77 = .ok (.iload 4, 2) := by decide +kernel
theorem dX7_follows_79 : decode cX7_follows 79 = .ok (.if_icmp .ne 18, 3) := by decide +kernel
theorem dX7_follows_82 : decode cX7_follows 82 = .ok (.aload_n 3, 1) := by decide +kernel
theorem dX7_follows_83 : decode cX7_follows 83 = .ok (.iload 4, 2) := by decide +kernel
theorem dX7_follows_85 : decode cX7_follows 85 = .ok (.iaload, 1) := by decide +kernel
theorem dX7_follows_86 : decode cX7_follows 86 = .ok (.aload_n 1, 1) := by decide +kernel
theorem dX7_follows_87 : decode cX7_follows 87 = .ok (.iload 4, 2) := by decide +kernel
theorem dX7_follows_89 : decode cX7_follows 89 = .ok (.iaload, 1) := by decide +kernel
theorem dX7_follows_90 : decode cX7_follows 90 = .ok (.if_icmp .ne 7, 3) := by decide +kernel
theorem dX7_follows_93 : decode cX7_follows 93 = .ok (.iconst 1, 1) := by decide +kernel
theorem dX7_follows_94 : decode cX7_follows 94 = .ok (.goto 4, 3) := by decide +kernel
theorem dX7_follows_97 : decode cX7_follows 97 = .ok (.iconst 0, 1) := by decide +kernel
theorem dX7_follows_98 : decode cX7_follows 98 = .ok (.istore 9, 2) := by decide +kernel
theorem dX7_follows_100 : decode cX7_follows 100 = .ok (.iload 7, 2) := by decide +kernel
theorem dX7_follows_102 : decode cX7_follows 102 = .ok (.ifCond .ne 13, 3) := by decide +kernel
theorem dX7_follows_105 : decode cX7_follows 105 = .ok (.iload 8, 2) := by decide +kernel
theorem dX7_follows_107 : decode cX7_follows 107 = .ok (.ifCond .ne 8, 3) := by decide +kernel
theorem dX7_follows_110 : decode cX7_follows 110 = .ok (.iload 9, 2) := by decide +kernel
theorem dX7_follows_112 : decode cX7_follows 112 = .ok (.ifCond .eq 7, 3) := by decide +kernel
theorem dX7_follows_115 : decode cX7_follows 115 = .ok (.iconst 1, 1) := by decide +kernel
theorem dX7_follows_116 : decode cX7_follows 116 = .ok (.goto 4, 3) := by decide +kernel
theorem dX7_follows_119 : decode cX7_follows 119 = .ok (.iconst 0, 1) := by decide +kernel
theorem dX7_follows_120 : decode cX7_follows 120 = .ok (.ireturn, 1) := by decide +kernel
theorem dX7_follows_121 : decode cX7_follows 121 = .ok (.iload 4, 2) := by decide +kernel
theorem dX7_follows_123 : decode cX7_follows 123 = .ok (.iload 5, 2) := by decide +kernel
theorem dX7_follows_125 : decode cX7_follows 125 = .ok (.iload 6, 2) := by decide +kernel
theorem dX7_follows_127 : decode cX7_follows 127 = .ok (.invokestatic 142, 3) := by decide +kernel
theorem dX7_follows_130 : decode cX7_follows 130 = .ok (.istore 7, 2) := by decide +kernel
theorem dX7_follows_132 : decode cX7_follows 132 = .ok (.iconst 0, 1) := by decide +kernel
theorem dX7_follows_133 : decode cX7_follows 133 = .ok (.istore 8, 2) := by decide +kernel
theorem dX7_follows_135 : decode cX7_follows 135 = .ok (.iload 7, 2) := by decide +kernel
theorem dX7_follows_137 : decode cX7_follows 137 = .ok (.ifCond .lt 7, 3) := by decide +kernel
theorem dX7_follows_140 : decode cX7_follows 140 = .ok (.iconst 1, 1) := by decide +kernel
theorem dX7_follows_141 : decode cX7_follows 141 = .ok (.goto 4, 3) := by decide +kernel
theorem dX7_follows_144 : decode cX7_follows 144 = .ok (.iconst 0, 1) := by decide +kernel
theorem dX7_follows_145 : decode cX7_follows 145 = .ok (.istore 9, 2) := by decide +kernel
theorem dX7_follows_147 : decode cX7_follows 147 = .ok (.iconst 0, 1) := by decide +kernel
theorem dX7_follows_148 : decode cX7_follows 148 = .ok (.istore 10, 2) := by decide +kernel
theorem dX7_follows_150 : decode cX7_follows 150 = .ok (.iload 10, 2) := by decide +kernel
theorem dX7_follows_152 : decode cX7_follows 152 = .ok (.iconst 4, 1) := by decide +kernel
theorem dX7_follows_153 : decode cX7_follows 153 = .ok (.if_icmp .ge 68, 3) := by decide +kernel
theorem dX7_follows_156 : decode cX7_follows 156 = .ok (.aload_n 1, 1) := by decide +kernel
theorem dX7_follows_157 : decode cX7_follows 157 = .ok (.iload 4, 2) := by decide +kernel
theorem dX7_follows_159 : decode cX7_follows 159 = .ok (.iaload, 1) := by decide +kernel
theorem dX7_follows_160 : decode cX7_follows 160 = .ok (.iload 10, 2) := by decide +kernel
theorem dX7_follows_162 : decode cX7_follows 162 = .ok (.invokestatic 128, 3) := by decide +kernel
theorem dX7_follows_165 : decode cX7_follows 165 = .ok (.aload_n 2, 1) := by decide +kernel
theorem dX7_follows_166 : decode cX7_follows 166 = .ok (.iload 5, 2) := by decide +kernel
theorem dX7_follows_168 : decode cX7_follows 168 = .ok (.iaload, 1) := by decide +kernel
theorem dX7_follows_169 : decode cX7_follows 169 = .ok (.iload 10, 2) := by decide +kernel
theorem dX7_follows_171 : decode cX7_follows 171 = .ok (.invokestatic 128, 3) := by decide +kernel
theorem dX7_follows_174 : decode cX7_follows 174 = .ok (.aload_n 3, 1) := by decide +kernel
theorem dX7_follows_175 : decode cX7_follows 175 = .ok (.iload 6, 2) := by decide +kernel
theorem dX7_follows_177 : decode cX7_follows 177 = .ok (.iaload, 1) := by decide +kernel
theorem dX7_follows_178 : decode cX7_follows 178 = .ok (.iload 10, 2) := by decide +kernel
theorem dX7_follows_180 : decode cX7_follows 180 = .ok (.invokestatic 128, 3) := by decide +kernel
theorem dX7_follows_183 : decode cX7_follows 183 = .ok (.invokestatic 142, 3) := by decide +kernel
theorem dX7_follows_186 : decode cX7_follows 186 = .ok (.istore 11, 2) := by decide +kernel
theorem dX7_follows_188 : decode cX7_follows 188 = .ok (.iload 9, 2) := by decide +kernel
theorem dX7_follows_190 : decode cX7_follows 190 = .ok (.ifCond .eq 12, 3) := by decide +kernel
theorem dX7_follows_193 : decode cX7_follows 193 = .ok (.iload 11, 2) := by decide +kernel
theorem dX7_follows_195 : decode cX7_follows 195 = .ok (.ifCond .lt 7, 3) := by decide +kernel
theorem dX7_follows_198 : decode cX7_follows 198 = .ok (.iconst 1, 1) := by decide +kernel
theorem dX7_follows_199 : decode cX7_follows 199 = .ok (.goto 4, 3) := by decide +kernel
theorem dX7_follows_202 : decode cX7_follows 202 = .ok (.iconst 0, 1) := by decide +kernel
theorem dX7_follows_203 : decode cX7_follows 203 = .ok (.istore 9, 2) := by decide +kernel
theorem dX7_follows_205 : decode cX7_follows 205 = .ok (.bipush 10, 2) := by decide +kernel
theorem dX7_follows_207 : decode cX7_follows 207 = .ok (.iload 8, 2) := by decide +kernel
theorem dX7_follows_209 : decode cX7_follows 209 = .ok (.imul, 1) := by decide +kernel
theorem dX7_follows_210 : decode cX7_follows 210 = .ok (.iload 11, 2) := by decide +kernel
theorem dX7_follows_212 : decode cX7_follows 212 = .ok (.iadd, 1) := by decide +kernel
theorem dX7_follows_213 : decode cX7_follows 213 = .ok (.istore 8, 2) := by decide +kernel
theorem dX7_follows_215 : decode cX7_follows 215 = .ok (.iinc 10 1, 3) := by decide +kernel
theorem dX7_follows_218 : decode cX7_follows 218 = .ok (.goto (-68), 3) := by decide +kernel
theorem dX7_follows_221 : decode cX7_follows 221 = .ok (.iload 9, 2) := by decide +kernel
theorem dX7_follows_223 : decode cX7_follows 223 = .ok (.ifCond .eq 11, 3) := by decide +kernel
theorem dX7_follows_226 : decode cX7_follows 226 = .ok (.aload_n 0, 1) := by decide +kernel
theorem dX7_follows_227 : decode cX7_follows 227 = .ok (.iload 7, 2) := by decide +kernel
theorem dX7_follows_229 : decode cX7_follows 229 = .ok (.iload 8, 2) := by decide +kernel
theorem dX7_follows_231 : decode cX7_follows 231 = .ok (.invokevirtual 146, 3) := by decide +kernel
theorem dX7_follows_234 : decode cX7_follows 234 = .ok (.iload 9, 2) := by decide +kernel
theorem dX7_follows_236 : decode cX7_follows 236 = .ok (.ireturn, 1) := by decide +kernel
theorem dX7_comes_0 : decode cX7_comes 0 = .ok (.aload_n 0, 1) := by decide +kernel
theorem dX7_comes_1 : decode cX7_comes 1 = .ok (.getfield 37, 3) := by decide +kernel
theorem dX7_comes_4 : decode cX7_comes 4 = .ok (.iload_n 1, 1) := by decide +kernel
theorem dX7_comes_5 : decode cX7_comes 5 = .ok (.iload_n 2, 1) := by decide +kernel
theorem dX7_comes_6 : decode cX7_comes 6 = .ok (.iastore, 1) := by decide +kernel
theorem dX7_comes_7 : decode cX7_comes 7 = .ok (.aload_n 0, 1) := by decide +kernel
theorem dX7_comes_8 : decode cX7_comes 8 = .ok (.getfield 40, 3) := by decide +kernel
theorem dX7_comes_11 : decode cX7_comes 11 = .ok (.iload_n 1, 1) := by decide +kernel
theorem dX7_comes_12 : decode cX7_comes 12 = .ok (.dup2, 1) := by decide +kernel
theorem dX7_comes_13 : decode cX7_comes 13 = .ok (.iaload, 1) := by decide +kernel
theorem dX7_comes_14 : decode cX7_comes 14 = .ok (.iconst 1, 1) := by decide +kernel
theorem dX7_comes_15 : decode cX7_comes 15 = .ok (.iadd, 1) := by decide +kernel
theorem dX7_comes_16 : decode cX7_comes 16 = .ok (.iastore, 1) := by decide +kernel
theorem dX7_comes_17 : decode cX7_comes 17 = .ok (.return_, 1) := by decide +kernel
theorem dX7_isNew_0 : decode cX7_isNew 0 = .ok (.aload_n 0, 1) := by decide +kernel
theorem dX7_isNew_1 : decode cX7_isNew 1 = .ok (.iload_n 3, 1) := by decide +kernel
theorem dX7_isNew_2 : decode cX7_isNew 2 = .ok (.iaload, 1) := by decide +kernel
theorem dX7_isNew_3 : decode cX7_isNew 3 = .ok (.iconst (-1), 1) := by decide +kernel
theorem dX7_isNew_4 : decode cX7_isNew 4 = .ok (.if_icmp .ne 22, 3) := by decide +kernel
theorem dX7_isNew_7 : decode cX7_isNew 7 = .ok (.aload_n 1, 1) := by decide +kernel
theorem dX7_isNew_8 : decode cX7_isNew 8 = .ok (.iload_n 3, 1) := by decide +kernel
theorem dX7_isNew_9 : decode cX7_isNew 9 = .ok (.iaload, 1) := by decide +kernel
theorem dX7_isNew_10 : decode cX7_isNew 10 = .ok (.iconst (-1), 1) := by decide +kernel
theorem dX7_isNew_11 : decode cX7_isNew 11 = .ok (.if_icmp .eq 15, 3) := by decide +kernel
theorem dX7_isNew_14 : decode cX7_isNew 14 = .ok (.aload_n 2, 1) := by decide +kernel
theorem dX7_isNew_15 : decode cX7_isNew 15 = .ok (.iload_n 3, 1) := by decide +kernel
theorem dX7_isNew_16 : decode cX7_isNew 16 = .ok (.invokestatic 131, 3) := by decide +kernel
theorem dX7_isNew_19 : decode cX7_isNew 19 = .ok (.ifCond .ne 7, 3) := by decide +kernel
theorem dX7_isNew_22 : decode cX7_isNew 22 = .ok (.iconst 1, 1) := by decide +kernel
theorem dX7_isNew_23 : decode cX7_isNew 23 = .ok (.goto 4, 3) := by decide +kernel
theorem dX7_isNew_26 : decode cX7_isNew 26 = .ok (.iconst 0, 1) := by decide +kernel
theorem dX7_isNew_27 : decode cX7_isNew 27 = .ok (.ireturn, 1) := by decide +kernel
theorem dX7_merges_0 : decode cX7_merges 0 = .ok (.aload_n 0, 1) := by decide +kernel
theorem dX7_merges_1 : decode cX7_merges 1 = .ok (.aload_n 1, 1) := by decide +kernel
theorem dX7_merges_2 : decode cX7_merges 2 = .ok (.aload_n 2, 1) := by decide +kernel
theorem dX7_merges_3 : decode cX7_merges 3 = .ok (.aload_n 0, 1) := by decide +kernel
theorem dX7_merges_4 : decode cX7_merges 4 = .ok (.getfield 31, 3) := by decide +kernel
theorem dX7_merges_7 : decode cX7_merges 7 = .ok (.invokevirtual 150, 3) := by decide +kernel
theorem dX7_merges_10 : decode cX7_merges 10 = .ok (.aload_n 0, 1) := by decide +kernel
theorem dX7_merges_11 : decode cX7_merges 11 = .ok (.aload_n 1, 1) := by decide +kernel
theorem dX7_merges_12 : decode cX7_merges 12 = .ok (.aload_n 3, 1) := by decide +kernel
theorem dX7_merges_13 : decode cX7_merges 13 = .ok (.aload_n 0, 1) := by decide +kernel
theorem dX7_merges_14 : decode cX7_merges 14 = .ok (.getfield 34, 3) := by decide +kernel
theorem dX7_merges_17 : decode cX7_merges 17 = .ok (.invokevirtual 150, 3) := by decide +kernel
theorem dX7_merges_20 : decode cX7_merges 20 = .ok (.aload_n 0, 1) := by decide +kernel
theorem dX7_merges_21 : decode cX7_merges 21 = .ok (.iconst 0, 1) := by decide +kernel
theorem dX7_merges_22 : decode cX7_merges 22 = .ok (.putfield 154, 3) := by decide +kernel
theorem dX7_merges_25 : decode cX7_merges 25 = .ok (.iconst 0, 1) := by decide +kernel
theorem dX7_merges_26 : decode cX7_merges 26 = .ok (.istore 4, 2) := by decide +kernel
theorem dX7_merges_28 : decode cX7_merges 28 = .ok (.iload 4, 2) := by decide +kernel
theorem dX7_merges_30 : decode cX7_merges 30 = .ok (.bipush 8, 2) := by decide +kernel
theorem dX7_merges_32 : decode cX7_merges 32 = .ok (.if_icmp .ge 25, 3) := by decide +kernel
theorem dX7_merges_35 : decode cX7_merges 35 = .ok (.aload_n 0, 1) := by decide +kernel
theorem dX7_merges_36 : decode cX7_merges 36 = .ok (.getfield 37, 3) := by decide +kernel
theorem dX7_merges_39 : decode cX7_merges 39 = .ok (.iload 4, 2) := by decide +kernel
theorem dX7_merges_41 : decode cX7_merges 41 = .ok (.iconst (-1), 1) := by decide +kernel
theorem dX7_merges_42 : decode cX7_merges 42 = .ok (.iastore, 1) := by decide +kernel
theorem dX7_merges_43 : decode cX7_merges 43 = .ok (.aload_n 0, 1) := by decide +kernel
theorem dX7_merges_44 : decode cX7_merges 44 = .ok (.getfield 40, 3) := by decide +kernel
theorem dX7_merges_47 : decode cX7_merges 47 = .ok (.iload 4, 2) := by decide +kernel
theorem dX7_merges_49 : decode cX7_merges 49 = .ok (.iconst 0, 1) := by decide +kernel
theorem dX7_merges_50 : decode cX7_merges 50 = .ok (.iastore, 1) := by decide +kernel
theorem dX7_merges_51 : decode cX7_merges 51 = .ok (.iinc 4 1, 3) := by decide +kernel
theorem dX7_merges_54 : decode cX7_merges 54 = .ok (.goto (-26), 3) := by decide +kernel
theorem dX7_merges_57 : decode cX7_merges 57 = .ok (.iconst 0, 1) := by decide +kernel
theorem dX7_merges_58 : decode cX7_merges 58 = .ok (.istore 4, 2) := by decide +kernel
theorem dX7_merges_60 : decode cX7_merges 60 = .ok (.iload 4, 2) := by decide +kernel
theorem dX7_merges_62 : decode cX7_merges 62 = .ok (.bipush 8, 2) := by decide +kernel
theorem dX7_merges_64 : decode cX7_merges 64 = .ok (.if_icmp .ge 43, 3) := by decide +kernel
theorem dX7_merges_67 : decode cX7_merges 67 = .ok (.aload_n 0, 1) := by decide +kernel
theorem dX7_merges_68 : decode cX7_merges 68 = .ok (.dup, 1) := by decide +kernel
theorem dX7_merges_69 : decode cX7_merges 69 = .ok (.getfield 154, 3) := by decide +kernel
theorem dX7_merges_72 : decode cX7_merges 72 = .ok (.aload_n 1, 1) := by decide +kernel
theorem dX7_merges_73 : decode cX7_merges 73 = .ok (.iload 4, 2) := by decide +kernel
theorem dX7_merges_75 : decode cX7_merges 75 = .ok (.iaload, 1) := by decide +kernel
theorem dX7_merges_76 : decode cX7_merges 76 = .ok (.iconst (-1), 1) := by decide +kernel
theorem dX7_merges_77 : decode cX7_merges 77 = .ok (.if_icmp .eq 19, 3) := by decide +kernel
theorem dX7_merges_80 : decode cX7_merges 80 = .ok (.aload_n 0, 1) := by decide +kernel
theorem dX7_merges_81 : decode cX7_merges 81 = .ok (.aload_n 1, 1) := by decide +kernel
theorem dX7_merges_82 : decode cX7_merges 82 = .ok (.aload_n 2, 1) := by decide +kernel
theorem dX7_merges_83 : decode cX7_merges 83 = .ok (.aload_n 3, 1) := by decide +kernel
theorem dX7_merges_84 : decode cX7_merges 84 = .ok (.iload 4, 2) := by decide +kernel
theorem dX7_merges_86 : decode cX7_merges 86 = .ok (.invokevirtual 157, 3) := by decide +kernel
theorem dX7_merges_89 : decode cX7_merges 89 = .ok (.ifCond .ne 7, 3) := by decide +kernel
theorem dX7_merges_92 : decode cX7_merges 92 = .ok (.iconst 1, 1) := by decide +kernel
theorem dX7_merges_93 : decode cX7_merges 93 = .ok (.goto 4, 3) := by decide +kernel
theorem dX7_merges_96 : decode cX7_merges 96 = .ok (.iconst 0, 1) := by decide +kernel
theorem dX7_merges_97 : decode cX7_merges 97 = .ok (.iadd, 1) := by decide +kernel
theorem dX7_merges_98 : decode cX7_merges 98 = .ok (.putfield 154, 3) := by decide +kernel
theorem dX7_merges_101 : decode cX7_merges 101 = .ok (.iinc 4 1, 3) := by decide +kernel
theorem dX7_merges_104 : decode cX7_merges 104 = .ok (.goto (-44), 3) := by decide +kernel
theorem dX7_merges_107 : decode cX7_merges 107 = .ok (.iconst 0, 1) := by decide +kernel
theorem dX7_merges_108 : decode cX7_merges 108 = .ok (.istore 4, 2) := by decide +kernel
theorem dX7_merges_110 : decode cX7_merges 110 = .ok (.iload 4, 2) := by decide +kernel
theorem dX7_merges_112 : decode cX7_merges 112 = .ok (.bipush 8, 2) := by decide +kernel
theorem dX7_merges_114 : decode cX7_merges 114 = .ok (.if_icmp .ge 81, 3) := by decide +kernel
theorem dX7_merges_117 : decode cX7_merges 117 = .ok (.aload_n 1, 1) := by decide +kernel
theorem dX7_merges_118 : decode cX7_merges 118 = .ok (.aload_n 2, 1) := by decide +kernel
theorem dX7_merges_119 : decode cX7_merges 119 = .ok (.aload_n 0, 1) := by decide +kernel
theorem dX7_merges_120 : decode cX7_merges 120 = .ok (.getfield 31, 3) := by decide +kernel
theorem dX7_merges_123 : decode cX7_merges 123 = .ok (.iload 4, 2) := by decide +kernel
theorem dX7_merges_125 : decode cX7_merges 125 = .ok (.invokestatic 161, 3) := by decide +kernel
theorem dX7_merges_128 : decode cX7_merges 128 = .ok (.istore 5, 2) := by decide +kernel
theorem dX7_merges_130 : decode cX7_merges 130 = .ok (.aload_n 1, 1) := by decide +kernel
theorem dX7_merges_131 : decode cX7_merges 131 = .ok (.aload_n 3, 1) := by decide +kernel
theorem dX7_merges_132 : decode cX7_merges 132 = .ok (.aload_n 0, 1) := by decide +kernel
theorem dX7_merges_133 : decode cX7_merges 133 = .ok (.getfield 34, 3) := by decide +kernel
theorem dX7_merges_136 : decode cX7_merges 136 = .ok (.iload 4, 2) := by decide +kernel
theorem dX7_merges_138 : decode cX7_merges 138 = .ok (.invokestatic 161, 3) := by decide +kernel
theorem dX7_merges_141 : decode cX7_merges 141 = .ok (.istore 6, 2) := by decide +kernel
theorem dX7_merges_143 : decode cX7_merges 143 = .ok (.iload 5, 2) := by decide +kernel
theorem dX7_merges_145 : decode cX7_merges 145 = .ok (.ifCond .eq 13, 3) := by decide +kernel
theorem dX7_merges_148 : decode cX7_merges 148 = .ok (.aload_n 0, 1) := by decide +kernel
theorem dX7_merges_149 : decode cX7_merges 149 = .ok (.iload 4, 2) := by decide +kernel
theorem dX7_merges_151 : decode cX7_merges 151 = .ok (.aload_n 2, 1) := by decide +kernel
theorem dX7_merges_152 : decode cX7_merges 152 = .ok (.iload 4, 2) := by decide +kernel
theorem dX7_merges_154 : decode cX7_merges 154 = .ok (.iaload, 1) := by decide +kernel
theorem dX7_merges_155 : decode cX7_merges 155 = .ok (.invokevirtual 146, 3) := by decide +kernel
theorem dX7_merges_158 : decode cX7_merges 158 = .ok (.iload 6, 2) := by decide +kernel
theorem dX7_merges_160 : decode cX7_merges 160 = .ok (.ifCond .eq 29, 3) := by decide +kernel
theorem dX7_merges_163 : decode cX7_merges 163 = .ok (.iload 5, 2) := by decide +kernel
theorem dX7_merges_165 : decode cX7_merges 165 = .ok (.ifCond .eq 14, 3) := by decide +kernel
theorem dX7_merges_168 : decode cX7_merges 168 = .ok (.aload_n 2, 1) := by decide +kernel
theorem dX7_merges_169 : decode cX7_merges 169 = .ok (.iload 4, 2) := by decide +kernel
theorem dX7_merges_171 : decode cX7_merges 171 = .ok (.iaload, 1) := by decide +kernel
theorem dX7_merges_172 : decode cX7_merges 172 = .ok (.aload_n 3, 1) := by decide +kernel
theorem dX7_merges_173 : decode cX7_merges 173 = .ok (.iload 4, 2) := by decide +kernel
theorem dX7_merges_175 : decode cX7_merges 175 = .ok (.iaload, 1) := by decide +kernel
theorem dX7_merges_176 : decode cX7_merges 176 = .ok (.if_icmp .eq 13, 3) := by decide +kernel
theorem dX7_merges_179 : decode cX7_merges 179 = .ok (.aload_n 0, 1) := by decide +kernel
theorem dX7_merges_180 : decode cX7_merges 180 = .ok (.iload 4, 2) := by decide +kernel
theorem dX7_merges_182 : decode cX7_merges 182 = .ok (.aload_n 3, 1) := by decide +kernel
theorem dX7_merges_183 : decode cX7_merges 183 = .ok (.iload 4, 2) := by decide +kernel
theorem dX7_merges_185 : decode cX7_merges 185 = .ok (.iaload, 1) := by decide +kernel
theorem dX7_merges_186 : decode cX7_merges 186 = .ok (.invokevirtual 146, 3) := by decide +kernel
theorem dX7_merges_189 : decode cX7_merges 189 = .ok (.iinc 4 1, 3) := by decide +kernel
theorem dX7_merges_192 : decode cX7_merges 192 = .ok (.goto (-82), 3) := by decide +kernel
theorem dX7_merges_195 : decode cX7_merges 195 = .ok (.iconst 0, 1) := by decide +kernel
theorem dX7_merges_196 : decode cX7_merges 196 = .ok (.istore 4, 2) := by decide +kernel
theorem dX7_merges_198 : decode cX7_merges 198 = .ok (.iload 4, 2) := by decide +kernel
theorem dX7_merges_200 : decode cX7_merges 200 = .ok (.bipush 8, 2) := by decide +kernel
theorem dX7_merges_202 : decode cX7_merges 202 = .ok (.if_icmp .ge 34, 3) := by decide +kernel
theorem dX7_merges_205 : decode cX7_merges 205 = .ok (.aload_n 0, 1) := by decide +kernel
theorem dX7_merges_206 : decode cX7_merges 206 = .ok (.dup, 1) := by decide +kernel
theorem dX7_merges_207 : decode cX7_merges 207 = .ok (.getfield 154, 3) := by decide +kernel
theorem dX7_merges_210 : decode cX7_merges 210 = .ok (.aload_n 0, 1) := by decide +kernel
theorem dX7_merges_211 : decode cX7_merges 211 = .ok (.getfield 40, 3) := by decide +kernel
theorem dX7_merges_214 : decode cX7_merges 214 = .ok (.iload 4, 2) := by decide +kernel
theorem dX7_merges_216 : decode cX7_merges 216 = .ok (.iaload, 1) := by decide +kernel
theorem dX7_merges_217 : decode cX7_merges 217 = .ok (.iconst 1, 1) := by decide +kernel
theorem dX7_merges_218 : decode cX7_merges 218 = .ok (.if_icmp .le 7, 3) := by decide +kernel
theorem dX7_merges_221 : decode cX7_merges 221 = .ok (.iconst 1, 1) := by decide +kernel
theorem dX7_merges_222 : decode cX7_merges 222 = .ok (.goto 4, 3) := by decide +kernel
theorem dX7_merges_225 : decode cX7_merges 225 = .ok (.iconst 0, 1) := by decide +kernel
theorem dX7_merges_226 : decode cX7_merges 226 = .ok (.iadd, 1) := by decide +kernel
theorem dX7_merges_227 : decode cX7_merges 227 = .ok (.putfield 154, 3) := by decide +kernel
theorem dX7_merges_230 : decode cX7_merges 230 = .ok (.iinc 4 1, 3) := by decide +kernel
theorem dX7_merges_233 : decode cX7_merges 233 = .ok (.goto (-35), 3) := by decide +kernel
theorem dX7_merges_236 : decode cX7_merges 236 = .ok (.aload_n 0, 1) := by decide +kernel
theorem dX7_merges_237 : decode cX7_merges 237 = .ok (.getfield 154, 3) := by decide +kernel
theorem dX7_merges_240 : decode cX7_merges 240 = .ok (.ireturn, 1) := by decide +kernel
theorem dX7_merge_0 : decode cX7_merge 0 = .ok (.aload_n 0, 1) := by decide +kernel
theorem dX7_merge_1 : decode cX7_merge 1 = .ok (.iload_n 1, 1) := by decide +kernel
theorem dX7_merge_2 : decode cX7_merge 2 = .ok (.invokevirtual 110, 3) := by decide +kernel
theorem dX7_merge_5 : decode cX7_merge 5 = .ok (.ifCond .eq 5, 3) := by decide +kernel
theorem dX7_merge_8 : decode cX7_merge 8 = .ok (.iconst 0, 1) := by decide +kernel
theorem dX7_merge_9 : decode cX7_merge 9 = .ok (.ireturn, 1) := by decide +kernel
theorem dX7_merge_10 : decode cX7_merge 10 = .ok (.aload_n 0, 1) := by decide +kernel
theorem dX7_merge_11 : decode cX7_merge 11 = .ok (.getfield 25, 3) := by decide +kernel
theorem dX7_merge_14 : decode cX7_merge 14 = .ok (.aload_n 0, 1) := by decide +kernel
theorem dX7_merge_15 : decode cX7_merge 15 = .ok (.getfield 95, 3) := by decide +kernel
theorem dX7_merge_18 : decode cX7_merge 18 = .ok (.iaload, 1) := by decide +kernel
theorem dX7_merge_19 : decode cX7_merge 19 = .ok (.istore_n 2, 1) := by decide +kernel
theorem dX7_merge_20 : decode cX7_merge 20 = .ok (.aload_n 0, 1) := by decide +kernel
theorem dX7_merge_21 : decode cX7_merge 21 = .ok (.getfield 25, 3) := by decide +kernel
theorem dX7_merge_24 : decode cX7_merge 24 = .ok (.iload_n 1, 1) := by decide +kernel
theorem dX7_merge_25 : decode cX7_merge 25 = .ok (.iaload, 1) := by decide +kernel
theorem dX7_merge_26 : decode cX7_merge 26 = .ok (.istore_n 3, 1) := by decide +kernel
theorem dX7_merge_27 : decode cX7_merge 27 = .ok (.aload_n 0, 1) := by decide +kernel
theorem dX7_merge_28 : decode cX7_merge 28 = .ok (.invokevirtual 98, 3) := by decide +kernel
theorem dX7_merge_31 : decode cX7_merge 31 = .ok (.ifCond .gt 12, 3) := by decide +kernel
theorem dX7_merge_34 : decode cX7_merge 34 = .ok (.aload_n 0, 1) := by decide +kernel
theorem dX7_merge_35 : decode cX7_merge 35 = .ok (.iload_n 3, 1) := by decide +kernel
theorem dX7_merge_36 : decode cX7_merge 36 = .ok (.iload_n 2, 1) := by decide +kernel
theorem dX7_merge_37 : decode cX7_merge 37 = .ok (.invokevirtual 164, 3) := by decide +kernel
theorem dX7_merge_40 : decode cX7_merge 40 = .ok (.ifCond .eq 9, 3) := by decide +kernel
theorem dX7_merge_43 : decode cX7_merge 43 = .ok (.aload_n 0, 1) := by decide +kernel
theorem dX7_merge_44 : decode cX7_merge 44 = .ok (.iconst 3, 1) := by decide +kernel
theorem dX7_merge_45 : decode cX7_merge 45 = .ok (.invokevirtual 91, 3) := by decide +kernel
theorem dX7_merge_48 : decode cX7_merge 48 = .ok (.ireturn, 1) := by decide +kernel
theorem dX7_merge_49 : decode cX7_merge 49 = .ok (.aload_n 0, 1) := by decide +kernel
theorem dX7_merge_50 : decode cX7_merge 50 = .ok (.iload_n 2, 1) := by decide +kernel
theorem dX7_merge_51 : decode cX7_merge 51 = .ok (.iload_n 3, 1) := by decide +kernel
theorem dX7_merge_52 : decode cX7_merge 52 = .ok (.invokevirtual 164, 3) := by decide +kernel
theorem dX7_merge_55 : decode cX7_merge 55 = .ok (.ifCond .eq 10, 3) := by decide +kernel
theorem dX7_merge_58 : decode cX7_merge 58 = .ok (.aload_n 0, 1) := by decide +kernel
theorem dX7_merge_59 : decode cX7_merge 59 = .ok (.iload_n 3, 1) := by decide +kernel
theorem dX7_merge_60 : decode cX7_merge 60 = .ok (.invokevirtual 113, 3) := by decide +kernel
theorem dX7_merge_63 : decode cX7_merge 63 = .ok (.iload_n 3, 1) := by decide +kernel
theorem dX7_merge_64 : decode cX7_merge 64 = .ok (.ireturn, 1) := by decide +kernel
theorem dX7_merge_65 : decode cX7_merge 65 = .ok (.aload_n 0, 1) := by decide +kernel
theorem dX7_merge_66 : decode cX7_merge 66 = .ok (.aload_n 0, 1) := by decide +kernel
theorem dX7_merge_67 : decode cX7_merge 67 = .ok (.getfield 11, 3) := by decide +kernel
theorem dX7_merge_70 : decode cX7_merge 70 = .ok (.aload_n 0, 1) := by decide +kernel
theorem dX7_merge_71 : decode cX7_merge 71 = .ok (.iload_n 2, 1) := by decide +kernel
theorem dX7_merge_72 : decode cX7_merge 72 = .ok (.iload_n 3, 1) := by decide +kernel
theorem dX7_merge_73 : decode cX7_merge 73 = .ok (.invokevirtual 168, 3) := by decide +kernel
theorem dX7_merge_76 : decode cX7_merge 76 = .ok (.aaload, 1) := by decide +kernel
theorem dX7_merge_77 : decode cX7_merge 77 = .ok (.aload_n 0, 1) := by decide +kernel
theorem dX7_merge_78 : decode cX7_merge 78 = .ok (.getfield 11, 3) := by decide +kernel
theorem dX7_merge_81 : decode cX7_merge 81 = .ok (.iload_n 2, 1) := by decide +kernel
theorem dX7_merge_82 : decode cX7_merge 82 = .ok (.aaload, 1) := by decide +kernel
theorem dX7_merge_83 : decode cX7_merge 83 = .ok (.aload_n 0, 1) := by decide +kernel
theorem dX7_merge_84 : decode cX7_merge 84 = .ok (.getfield 11, 3) := by decide +kernel
theorem dX7_merge_87 : decode cX7_merge 87 = .ok (.iload_n 3, 1) := by decide +kernel
theorem dX7_merge_88 : decode cX7_merge 88 = .ok (.aaload, 1) := by decide +kernel
theorem dX7_merge_89 : decode cX7_merge 89 = .ok (.invokevirtual 171, 3) := by decide +kernel
theorem dX7_merge_92 : decode cX7_merge 92 = .ok (.ifCond .le 9, 3) := by decide +kernel
theorem dX7_merge_95 : decode cX7_merge 95 = .ok (.aload_n 0, 1) := by decide +kernel
theorem dX7_merge_96 : decode cX7_merge 96 = .ok (.iconst 4, 1) := by decide +kernel
theorem dX7_merge_97 : decode cX7_merge 97 = .ok (.invokevirtual 91, 3) := by decide +kernel
theorem dX7_merge_100 : decode cX7_merge 100 = .ok (.ireturn, 1) := by decide +kernel
theorem dX7_merge_101 : decode cX7_merge 101 = .ok (.aload_n 0, 1) := by decide +kernel
theorem dX7_merge_102 : decode cX7_merge 102 = .ok (.aload_n 0, 1) := by decide +kernel
theorem dX7_merge_103 : decode cX7_merge 103 = .ok (.getfield 37, 3) := by decide +kernel
theorem dX7_merge_106 : decode cX7_merge 106 = .ok (.iload_n 2, 1) := by decide +kernel
theorem dX7_merge_107 : decode cX7_merge 107 = .ok (.iload_n 3, 1) := by decide +kernel
theorem dX7_merge_108 : decode cX7_merge 108 = .ok (.invokevirtual 106, 3) := by decide +kernel
theorem dX7_merge_111 : decode cX7_merge 111 = .ok (.istore 4, 2) := by decide +kernel
theorem dX7_merge_113 : decode cX7_merge 113 = .ok (.iload 4, 2) := by decide +kernel
theorem dX7_merge_115 : decode cX7_merge 115 = .ok (.iconst (-1), 1) := by decide +kernel
theorem dX7_merge_116 : decode cX7_merge 116 = .ok (.if_icmp .ne 9, 3) := by decide +kernel
theorem dX7_merge_119 : decode cX7_merge 119 = .ok (.aload_n 0, 1) := by decide +kernel
theorem dX7_merge_120 : decode cX7_merge 120 = .ok (.iconst 4, 1) := by decide +kernel
theorem dX7_merge_121 : decode cX7_merge 121 = .ok (.invokevirtual 91, 3) := by decide +kernel
theorem dX7_merge_124 : decode cX7_merge 124 = .ok (.ireturn, 1) := by decide +kernel
theorem dX7_merge_125 : decode cX7_merge 125 = .ok (.aload_n 0, 1) := by decide +kernel
theorem dX7_merge_126 : decode cX7_merge 126 = .ok (.iload 4, 2) := by decide +kernel
theorem dX7_merge_128 : decode cX7_merge 128 = .ok (.invokevirtual 113, 3) := by decide +kernel
theorem dX7_merge_131 : decode cX7_merge 131 = .ok (.iload 4, 2) := by decide +kernel
theorem dX7_merge_133 : decode cX7_merge 133 = .ok (.ireturn, 1) := by decide +kernel
theorem dX7_putOnto_0 : decode cX7_putOnto 0 = .ok (.aload_n 0, 1) := by decide +kernel
theorem dX7_putOnto_1 : decode cX7_putOnto 1 = .ok (.iload_n 1, 1) := by decide +kernel
theorem dX7_putOnto_2 : decode cX7_putOnto 2 = .ok (.invokevirtual 110, 3) := by decide +kernel
theorem dX7_putOnto_5 : decode cX7_putOnto 5 = .ok (.ifCond .eq 5, 3) := by decide +kernel
theorem dX7_putOnto_8 : decode cX7_putOnto 8 = .ok (.iconst 0, 1) := by decide +kernel
theorem dX7_putOnto_9 : decode cX7_putOnto 9 = .ok (.ireturn, 1) := by decide +kernel
theorem dX7_putOnto_10 : decode cX7_putOnto 10 = .ok (.aload_n 0, 1) := by decide +kernel
theorem dX7_putOnto_11 : decode cX7_putOnto 11 = .ok (.getfield 25, 3) := by decide +kernel
theorem dX7_putOnto_14 : decode cX7_putOnto 14 = .ok (.iload_n 1, 1) := by decide +kernel
theorem dX7_putOnto_15 : decode cX7_putOnto 15 = .ok (.iaload, 1) := by decide +kernel
theorem dX7_putOnto_16 : decode cX7_putOnto 16 = .ok (.istore_n 2, 1) := by decide +kernel
theorem dX7_putOnto_17 : decode cX7_putOnto 17 = .ok (.aload_n 0, 1) := by decide +kernel
theorem dX7_putOnto_18 : decode cX7_putOnto 18 = .ok (.invokevirtual 98, 3) := by decide +kernel
theorem dX7_putOnto_21 : decode cX7_putOnto 21 = .ok (.ifCond .gt 20, 3) := by decide +kernel
theorem dX7_putOnto_24 : decode cX7_putOnto 24 = .ok (.aload_n 0, 1) := by decide +kernel
theorem dX7_putOnto_25 : decode cX7_putOnto 25 = .ok (.aload_n 0, 1) := by decide +kernel
theorem dX7_putOnto_26 : decode cX7_putOnto 26 = .ok (.getfield 25, 3) := by decide +kernel
theorem dX7_putOnto_29 : decode cX7_putOnto 29 = .ok (.aload_n 0, 1) := by decide +kernel
theorem dX7_putOnto_30 : decode cX7_putOnto 30 = .ok (.getfield 95, 3) := by decide +kernel
theorem dX7_putOnto_33 : decode cX7_putOnto 33 = .ok (.iaload, 1) := by decide +kernel
theorem dX7_putOnto_34 : decode cX7_putOnto 34 = .ok (.iload_n 2, 1) := by decide +kernel
theorem dX7_putOnto_35 : decode cX7_putOnto 35 = .ok (.invokevirtual 164, 3) := by decide +kernel
theorem dX7_putOnto_38 : decode cX7_putOnto 38 = .ok (.ifCond .eq 9, 3) := by decide +kernel
theorem dX7_putOnto_41 : decode cX7_putOnto 41 = .ok (.aload_n 0, 1) := by decide +kernel
theorem dX7_putOnto_42 : decode cX7_putOnto 42 = .ok (.iconst 3, 1) := by decide +kernel
theorem dX7_putOnto_43 : decode cX7_putOnto 43 = .ok (.invokevirtual 91, 3) := by decide +kernel
theorem dX7_putOnto_46 : decode cX7_putOnto 46 = .ok (.ireturn, 1) := by decide +kernel
theorem dX7_putOnto_47 : decode cX7_putOnto 47 = .ok (.aload_n 0, 1) := by decide +kernel
theorem dX7_putOnto_48 : decode cX7_putOnto 48 = .ok (.iload_n 2, 1) := by decide +kernel
theorem dX7_putOnto_49 : decode cX7_putOnto 49 = .ok (.aload_n 0, 1) := by decide +kernel
theorem dX7_putOnto_50 : decode cX7_putOnto 50 = .ok (.getfield 65, 3) := by decide +kernel
theorem dX7_putOnto_53 : decode cX7_putOnto 53 = .ok (.invokevirtual 120, 3) := by decide +kernel
theorem dX7_putOnto_56 : decode cX7_putOnto 56 = .ok (.iconst 0, 1) := by decide +kernel
theorem dX7_putOnto_57 : decode cX7_putOnto 57 = .ok (.istore_n 3, 1) := by decide +kernel
theorem dX7_putOnto_58 : decode cX7_putOnto 58 = .ok (.aload_n 0, 1) := by decide +kernel
theorem dX7_putOnto_59 : decode cX7_putOnto 59 = .ok (.getfield 25, 3) := by decide +kernel
theorem dX7_putOnto_62 : decode cX7_putOnto 62 = .ok (.aload_n 0, 1) := by decide +kernel
theorem dX7_putOnto_63 : decode cX7_putOnto 63 = .ok (.getfield 95, 3) := by decide +kernel
theorem dX7_putOnto_66 : decode cX7_putOnto 66 = .ok (.iaload, 1) := by decide +kernel
theorem dX7_putOnto_67 : decode cX7_putOnto 67 = .ok (.istore 4, 2) := by decide +kernel
theorem dX7_putOnto_69 : decode cX7_putOnto 69 = .ok (.aload_n 0, 1) := by decide +kernel
theorem dX7_putOnto_70 : decode cX7_putOnto 70 = .ok (.getfield 65, 3) := by decide +kernel
theorem dX7_putOnto_73 : decode cX7_putOnto 73 = .ok (.iload 4, 2) := by decide +kernel
theorem dX7_putOnto_75 : decode cX7_putOnto 75 = .ok (.baload, 1) := by decide +kernel
theorem dX7_putOnto_76 : decode cX7_putOnto 76 = .ok (.ifCond .ne 26, 3) := by decide +kernel
theorem dX7_putOnto_79 : decode cX7_putOnto 79 = .ok (.aload_n 0, 1) := by decide +kernel
theorem dX7_putOnto_80 : decode cX7_putOnto 80 = .ok (.getfield 43, 3) := by decide +kernel
theorem dX7_putOnto_83 : decode cX7_putOnto 83 = .ok (.iload_n 3, 1) := by decide +kernel
theorem dX7_putOnto_84 : decode cX7_putOnto 84 = .ok (.iload 4, 2) := by decide +kernel
theorem dX7_putOnto_86 : decode cX7_putOnto 86 = .ok (.iastore, 1) := by decide +kernel
theorem dX7_putOnto_87 : decode cX7_putOnto 87 = .ok (.iinc 3 1, 3) := by decide +kernel
theorem dX7_putOnto_90 : decode cX7_putOnto 90 = .ok (.aload_n 0, 1) := by decide +kernel
theorem dX7_putOnto_91 : decode cX7_putOnto 91 = .ok (.getfield 14, 3) := by decide +kernel
theorem dX7_putOnto_94 : decode cX7_putOnto 94 = .ok (.iload 4, 2) := by decide +kernel
theorem dX7_putOnto_96 : decode cX7_putOnto 96 = .ok (.iaload, 1) := by decide +kernel
theorem dX7_putOnto_97 : decode cX7_putOnto 97 = .ok (.istore 4, 2) := by decide +kernel
theorem dX7_putOnto_99 : decode cX7_putOnto 99 = .ok (.goto (-30), 3) := by decide +kernel
theorem dX7_putOnto_102 : decode cX7_putOnto 102 = .ok (.aload_n 0, 1) := by decide +kernel
theorem dX7_putOnto_103 : decode cX7_putOnto 103 = .ok (.getfield 21, 3) := by decide +kernel
theorem dX7_putOnto_106 : decode cX7_putOnto 106 = .ok (.istore 4, 2) := by decide +kernel
theorem dX7_putOnto_108 : decode cX7_putOnto 108 = .ok (.iload_n 2, 1) := by decide +kernel
theorem dX7_putOnto_109 : decode cX7_putOnto 109 = .ok (.istore 5, 2) := by decide +kernel
theorem dX7_putOnto_111 : decode cX7_putOnto 111 = .ok (.iload_n 3, 1) := by decide +kernel
theorem dX7_putOnto_112 : decode cX7_putOnto 112 = .ok (.iconst 1, 1) := by decide +kernel
theorem dX7_putOnto_113 : decode cX7_putOnto 113 = .ok (.isub, 1) := by decide +kernel
theorem dX7_putOnto_114 : decode cX7_putOnto 114 = .ok (.istore 6, 2) := by decide +kernel
theorem dX7_putOnto_116 : decode cX7_putOnto 116 = .ok (.iload 6, 2) := by decide +kernel
theorem dX7_putOnto_118 : decode cX7_putOnto 118 = .ok (.ifCond .lt 42, 3) := by decide +kernel
theorem dX7_putOnto_121 : decode cX7_putOnto 121 = .ok (.aload_n 0, 1) := by decide +kernel
theorem dX7_putOnto_122 : decode cX7_putOnto 122 = .ok (.aload_n 0, 1) := by decide +kernel
theorem dX7_putOnto_123 : decode cX7_putOnto 123 = .ok (.getfield 43, 3) := by decide +kernel
theorem dX7_putOnto_126 : decode cX7_putOnto 126 = .ok (.iload 6, 2) := by decide +kernel
theorem dX7_putOnto_128 : decode cX7_putOnto 128 = .ok (.iaload, 1) := by decide +kernel
theorem dX7_putOnto_129 : decode cX7_putOnto 129 = .ok (.iload 5, 2) := by decide +kernel
theorem dX7_putOnto_131 : decode cX7_putOnto 131 = .ok (.invokevirtual 175, 3) := by decide +kernel
theorem dX7_putOnto_134 : decode cX7_putOnto 134 = .ok (.istore 5, 2) := by decide +kernel
theorem dX7_putOnto_136 : decode cX7_putOnto 136 = .ok (.iload 5, 2) := by decide +kernel
theorem dX7_putOnto_138 : decode cX7_putOnto 138 = .ok (.iconst (-1), 1) := by decide +kernel
theorem dX7_putOnto_139 : decode cX7_putOnto 139 = .ok (.if_icmp .ne 15, 3) := by decide +kernel
theorem dX7_putOnto_142 : decode cX7_putOnto 142 = .ok (.aload_n 0, 1) := by decide +kernel
theorem dX7_putOnto_143 : decode cX7_putOnto 143 = .ok (.iload 4, 2) := by decide +kernel
theorem dX7_putOnto_145 : decode cX7_putOnto 145 = .ok (.putfield 21, 3) := by decide +kernel
theorem dX7_putOnto_148 : decode cX7_putOnto 148 = .ok (.aload_n 0, 1) := by decide +kernel
theorem dX7_putOnto_149 : decode cX7_putOnto 149 = .ok (.iconst 4, 1) := by decide +kernel
theorem dX7_putOnto_150 : decode cX7_putOnto 150 = .ok (.invokevirtual 91, 3) := by decide +kernel
theorem dX7_putOnto_153 : decode cX7_putOnto 153 = .ok (.ireturn, 1) := by decide +kernel
theorem dX7_putOnto_154 : decode cX7_putOnto 154 = .ok (.iinc 6 (-1), 3) := by decide +kernel
theorem dX7_putOnto_157 : decode cX7_putOnto 157 = .ok (.goto (-41), 3) := by decide +kernel
theorem dX7_putOnto_160 : decode cX7_putOnto 160 = .ok (.aload_n 0, 1) := by decide +kernel
theorem dX7_putOnto_161 : decode cX7_putOnto 161 = .ok (.iload 5, 2) := by decide +kernel
theorem dX7_putOnto_163 : decode cX7_putOnto 163 = .ok (.invokevirtual 113, 3) := by decide +kernel
theorem dX7_putOnto_166 : decode cX7_putOnto 166 = .ok (.iload_n 3, 1) := by decide +kernel
theorem dX7_putOnto_167 : decode cX7_putOnto 167 = .ok (.ireturn, 1) := by decide +kernel
theorem dX7_applied_0 : decode cX7_applied 0 = .ok (.iconst 0, 1) := by decide +kernel
theorem dX7_applied_1 : decode cX7_applied 1 = .ok (.istore_n 3, 1) := by decide +kernel
theorem dX7_applied_2 : decode cX7_applied 2 = .ok (.iload_n 3, 1) := by decide +kernel
theorem dX7_applied_3 : decode cX7_applied 3 = .ok (.bipush 8, 2) := by decide +kernel
theorem dX7_applied_5 : decode cX7_applied 5 = .ok (.if_icmp .ge 23, 3) := by decide +kernel
theorem dX7_applied_8 : decode cX7_applied 8 = .ok (.aload_n 0, 1) := by decide +kernel
theorem dX7_applied_9 : decode cX7_applied 9 = .ok (.getfield 46, 3) := by decide +kernel
theorem dX7_applied_12 : decode cX7_applied 12 = .ok (.iload_n 3, 1) := by decide +kernel
theorem dX7_applied_13 : decode cX7_applied 13 = .ok (.aload_n 0, 1) := by decide +kernel
theorem dX7_applied_14 : decode cX7_applied 14 = .ok (.getfield 11, 3) := by decide +kernel
theorem dX7_applied_17 : decode cX7_applied 17 = .ok (.iload_n 2, 1) := by decide +kernel
theorem dX7_applied_18 : decode cX7_applied 18 = .ok (.aaload, 1) := by decide +kernel
theorem dX7_applied_19 : decode cX7_applied 19 = .ok (.iload_n 3, 1) := by decide +kernel
theorem dX7_applied_20 : decode cX7_applied 20 = .ok (.iaload, 1) := by decide +kernel
theorem dX7_applied_21 : decode cX7_applied 21 = .ok (.iastore, 1) := by decide +kernel
theorem dX7_applied_22 : decode cX7_applied 22 = .ok (.iinc 3 1, 3) := by decide +kernel
theorem dX7_applied_25 : decode cX7_applied 25 = .ok (.goto (-23), 3) := by decide +kernel
theorem dX7_applied_28 : decode cX7_applied 28 = .ok (.aload_n 0, 1) := by decide +kernel
theorem dX7_applied_29 : decode cX7_applied 29 = .ok (.aload_n 0, 1) := by decide +kernel
theorem dX7_applied_30 : decode cX7_applied 30 = .ok (.getfield 11, 3) := by decide +kernel
theorem dX7_applied_33 : decode cX7_applied 33 = .ok (.aload_n 0, 1) := by decide +kernel
theorem dX7_applied_34 : decode cX7_applied 34 = .ok (.getfield 14, 3) := by decide +kernel
theorem dX7_applied_37 : decode cX7_applied 37 = .ok (.iload_n 1, 1) := by decide +kernel
theorem dX7_applied_38 : decode cX7_applied 38 = .ok (.iaload, 1) := by decide +kernel
theorem dX7_applied_39 : decode cX7_applied 39 = .ok (.aaload, 1) := by decide +kernel
theorem dX7_applied_40 : decode cX7_applied 40 = .ok (.aload_n 0, 1) := by decide +kernel
theorem dX7_applied_41 : decode cX7_applied 41 = .ok (.getfield 46, 3) := by decide +kernel
theorem dX7_applied_44 : decode cX7_applied 44 = .ok (.aload_n 0, 1) := by decide +kernel
theorem dX7_applied_45 : decode cX7_applied 45 = .ok (.getfield 11, 3) := by decide +kernel
theorem dX7_applied_48 : decode cX7_applied 48 = .ok (.iload_n 1, 1) := by decide +kernel
theorem dX7_applied_49 : decode cX7_applied 49 = .ok (.aaload, 1) := by decide +kernel
theorem dX7_applied_50 : decode cX7_applied 50 = .ok (.invokevirtual 171, 3) := by decide +kernel
theorem dX7_applied_53 : decode cX7_applied 53 = .ok (.ifCond .le 5, 3) := by decide +kernel
theorem dX7_applied_56 : decode cX7_applied 56 = .ok (.iconst (-1), 1) := by decide +kernel
theorem dX7_applied_57 : decode cX7_applied 57 = .ok (.ireturn, 1) := by decide +kernel
theorem dX7_applied_58 : decode cX7_applied 58 = .ok (.aload_n 0, 1) := by decide +kernel
theorem dX7_applied_59 : decode cX7_applied 59 = .ok (.getfield 37, 3) := by decide +kernel
theorem dX7_applied_62 : decode cX7_applied 62 = .ok (.aload_n 0, 1) := by decide +kernel
theorem dX7_applied_63 : decode cX7_applied 63 = .ok (.getfield 46, 3) := by decide +kernel
theorem dX7_applied_66 : decode cX7_applied 66 = .ok (.invokestatic 102, 3) := by decide +kernel
theorem dX7_applied_69 : decode cX7_applied 69 = .ok (.ifCond .eq 7, 3) := by decide +kernel
theorem dX7_applied_72 : decode cX7_applied 72 = .ok (.iload_n 2, 1) := by decide +kernel
theorem dX7_applied_73 : decode cX7_applied 73 = .ok (.goto 13, 3) := by decide +kernel
theorem dX7_applied_76 : decode cX7_applied 76 = .ok (.aload_n 0, 1) := by decide +kernel
theorem dX7_applied_77 : decode cX7_applied 77 = .ok (.aload_n 0, 1) := by decide +kernel
theorem dX7_applied_78 : decode cX7_applied 78 = .ok (.getfield 37, 3) := by decide +kernel
theorem dX7_applied_81 : decode cX7_applied 81 = .ok (.iload_n 2, 1) := by decide +kernel
theorem dX7_applied_82 : decode cX7_applied 82 = .ok (.iconst (-1), 1) := by decide +kernel
theorem dX7_applied_83 : decode cX7_applied 83 = .ok (.invokevirtual 106, 3) := by decide +kernel
theorem dX7_applied_86 : decode cX7_applied 86 = .ok (.ireturn, 1) := by decide +kernel
theorem dX7_currentBranch_0 : decode cX7_currentBranch 0 = .ok (.aload_n 0, 1) := by decide +kernel
theorem dX7_currentBranch_1 : decode cX7_currentBranch 1 = .ok (.iconst 0, 1) := by decide +kernel
theorem dX7_currentBranch_2 : decode cX7_currentBranch 2 = .ok (.putfield 77, 3) := by decide +kernel
theorem dX7_currentBranch_5 : decode cX7_currentBranch 5 = .ok (.aload_n 0, 1) := by decide +kernel
theorem dX7_currentBranch_6 : decode cX7_currentBranch 6 = .ok (.getfield 95, 3) := by decide +kernel
theorem dX7_currentBranch_9 : decode cX7_currentBranch 9 = .ok (.ireturn, 1) := by decide +kernel
theorem dX7_head_0 : decode cX7_head 0 = .ok (.aload_n 0, 1) := by decide +kernel
theorem dX7_head_1 : decode cX7_head 1 = .ok (.iload_n 1, 1) := by decide +kernel
theorem dX7_head_2 : decode cX7_head 2 = .ok (.invokevirtual 110, 3) := by decide +kernel
theorem dX7_head_5 : decode cX7_head 5 = .ok (.ifCond .eq 7, 3) := by decide +kernel
theorem dX7_head_8 : decode cX7_head 8 = .ok (.iconst 0, 1) := by decide +kernel
theorem dX7_head_9 : decode cX7_head 9 = .ok (.goto 9, 3) := by decide +kernel
theorem dX7_head_12 : decode cX7_head 12 = .ok (.aload_n 0, 1) := by decide +kernel
theorem dX7_head_13 : decode cX7_head 13 = .ok (.getfield 25, 3) := by decide +kernel
theorem dX7_head_16 : decode cX7_head 16 = .ok (.iload_n 1, 1) := by decide +kernel
theorem dX7_head_17 : decode cX7_head 17 = .ok (.iaload, 1) := by decide +kernel
theorem dX7_head_18 : decode cX7_head 18 = .ok (.ireturn, 1) := by decide +kernel
theorem dX7_commits_0 : decode cX7_commits 0 = .ok (.aload_n 0, 1) := by decide +kernel
theorem dX7_commits_1 : decode cX7_commits 1 = .ok (.iconst 0, 1) := by decide +kernel
theorem dX7_commits_2 : decode cX7_commits 2 = .ok (.putfield 77, 3) := by decide +kernel
theorem dX7_commits_5 : decode cX7_commits 5 = .ok (.aload_n 0, 1) := by decide +kernel
theorem dX7_commits_6 : decode cX7_commits 6 = .ok (.getfield 21, 3) := by decide +kernel
theorem dX7_commits_9 : decode cX7_commits 9 = .ok (.ireturn, 1) := by decide +kernel
theorem dX7_contentIn_0 : decode cX7_contentIn 0 = .ok (.aload_n 0, 1) := by decide +kernel
theorem dX7_contentIn_1 : decode cX7_contentIn 1 = .ok (.aload_n 0, 1) := by decide +kernel
theorem dX7_contentIn_2 : decode cX7_contentIn 2 = .ok (.iload_n 1, 1) := by decide +kernel
theorem dX7_contentIn_3 : decode cX7_contentIn 3 = .ok (.invokevirtual 117, 3) := by decide +kernel
theorem dX7_contentIn_6 : decode cX7_contentIn 6 = .ok (.ifCond .eq 10, 3) := by decide +kernel
theorem dX7_contentIn_9 : decode cX7_contentIn 9 = .ok (.iload_n 2, 1) := by decide +kernel
theorem dX7_contentIn_10 : decode cX7_contentIn 10 = .ok (.invokestatic 84, 3) := by decide +kernel
theorem dX7_contentIn_13 : decode cX7_contentIn 13 = .ok (.ifCond .ne 7, 3) := by decide +kernel
theorem dX7_contentIn_16 : decode cX7_contentIn 16 = .ok (.iconst 1, 1) := by decide +kernel
theorem dX7_contentIn_17 : decode cX7_contentIn 17 = .ok (.goto 20, 3) := by decide +kernel
theorem dX7_contentIn_20 : decode cX7_contentIn 20 = .ok (.aload_n 0, 1) := by decide +kernel
theorem dX7_contentIn_21 : decode cX7_contentIn 21 = .ok (.getfield 11, 3) := by decide +kernel
theorem dX7_contentIn_24 : decode cX7_contentIn 24 = .ok (.iload_n 1, 1) := by decide +kernel
theorem dX7_contentIn_25 : decode cX7_contentIn 25 = .ok (.aaload, 1) := by decide +kernel
theorem dX7_contentIn_26 : decode cX7_contentIn 26 = .ok (.iload_n 2, 1) := by decide +kernel
theorem dX7_contentIn_27 : decode cX7_contentIn 27 = .ok (.iaload, 1) := by decide +kernel
theorem dX7_contentIn_28 : decode cX7_contentIn 28 = .ok (.iconst (-1), 1) := by decide +kernel
theorem dX7_contentIn_29 : decode cX7_contentIn 29 = .ok (.if_icmp .ne 7, 3) := by decide +kernel
theorem dX7_contentIn_32 : decode cX7_contentIn 32 = .ok (.iconst 2, 1) := by decide +kernel
theorem dX7_contentIn_33 : decode cX7_contentIn 33 = .ok (.goto 4, 3) := by decide +kernel
theorem dX7_contentIn_36 : decode cX7_contentIn 36 = .ok (.iconst 0, 1) := by decide +kernel
theorem dX7_contentIn_37 : decode cX7_contentIn 37 = .ok (.putfield 77, 3) := by decide +kernel
theorem dX7_contentIn_40 : decode cX7_contentIn 40 = .ok (.aload_n 0, 1) := by decide +kernel
theorem dX7_contentIn_41 : decode cX7_contentIn 41 = .ok (.getfield 77, 3) := by decide +kernel
theorem dX7_contentIn_44 : decode cX7_contentIn 44 = .ok (.ifCond .le 7, 3) := by decide +kernel
theorem dX7_contentIn_47 : decode cX7_contentIn 47 = .ok (.iconst 0, 1) := by decide +kernel
theorem dX7_contentIn_48 : decode cX7_contentIn 48 = .ok (.goto 11, 3) := by decide +kernel
theorem dX7_contentIn_51 : decode cX7_contentIn 51 = .ok (.aload_n 0, 1) := by decide +kernel
theorem dX7_contentIn_52 : decode cX7_contentIn 52 = .ok (.getfield 11, 3) := by decide +kernel
theorem dX7_contentIn_55 : decode cX7_contentIn 55 = .ok (.iload_n 1, 1) := by decide +kernel
theorem dX7_contentIn_56 : decode cX7_contentIn 56 = .ok (.aaload, 1) := by decide +kernel
theorem dX7_contentIn_57 : decode cX7_contentIn 57 = .ok (.iload_n 2, 1) := by decide +kernel
theorem dX7_contentIn_58 : decode cX7_contentIn 58 = .ok (.iaload, 1) := by decide +kernel
theorem dX7_contentIn_59 : decode cX7_contentIn 59 = .ok (.ireturn, 1) := by decide +kernel
theorem dX7_parentOf_0 : decode cX7_parentOf 0 = .ok (.aload_n 0, 1) := by decide +kernel
theorem dX7_parentOf_1 : decode cX7_parentOf 1 = .ok (.iload_n 1, 1) := by decide +kernel
theorem dX7_parentOf_2 : decode cX7_parentOf 2 = .ok (.invokevirtual 117, 3) := by decide +kernel
theorem dX7_parentOf_5 : decode cX7_parentOf 5 = .ok (.ifCond .eq 12, 3) := by decide +kernel
theorem dX7_parentOf_8 : decode cX7_parentOf 8 = .ok (.iload_n 2, 1) := by decide +kernel
theorem dX7_parentOf_9 : decode cX7_parentOf 9 = .ok (.iconst 0, 1) := by decide +kernel
theorem dX7_parentOf_10 : decode cX7_parentOf 10 = .ok (.iconst 1, 1) := by decide +kernel
theorem dX7_parentOf_11 : decode cX7_parentOf 11 = .ok (.invokestatic 80, 3) := by decide +kernel
theorem dX7_parentOf_14 : decode cX7_parentOf 14 = .ok (.ifCond .ne 9, 3) := by decide +kernel
theorem dX7_parentOf_17 : decode cX7_parentOf 17 = .ok (.aload_n 0, 1) := by decide +kernel
theorem dX7_parentOf_18 : decode cX7_parentOf 18 = .ok (.iconst 1, 1) := by decide +kernel
theorem dX7_parentOf_19 : decode cX7_parentOf 19 = .ok (.invokevirtual 91, 3) := by decide +kernel
theorem dX7_parentOf_22 : decode cX7_parentOf 22 = .ok (.ireturn, 1) := by decide +kernel
theorem dX7_parentOf_23 : decode cX7_parentOf 23 = .ok (.iload_n 2, 1) := by decide +kernel
theorem dX7_parentOf_24 : decode cX7_parentOf 24 = .ok (.ifCond .ne 12, 3) := by decide +kernel
theorem dX7_parentOf_27 : decode cX7_parentOf 27 = .ok (.aload_n 0, 1) := by decide +kernel
theorem dX7_parentOf_28 : decode cX7_parentOf 28 = .ok (.getfield 14, 3) := by decide +kernel
theorem dX7_parentOf_31 : decode cX7_parentOf 31 = .ok (.iload_n 1, 1) := by decide +kernel
theorem dX7_parentOf_32 : decode cX7_parentOf 32 = .ok (.iaload, 1) := by decide +kernel
theorem dX7_parentOf_33 : decode cX7_parentOf 33 = .ok (.goto 9, 3) := by decide +kernel
theorem dX7_parentOf_36 : decode cX7_parentOf 36 = .ok (.aload_n 0, 1) := by decide +kernel
theorem dX7_parentOf_37 : decode cX7_parentOf 37 = .ok (.getfield 18, 3) := by decide +kernel
theorem dX7_parentOf_40 : decode cX7_parentOf 40 = .ok (.iload_n 1, 1) := by decide +kernel
theorem dX7_parentOf_41 : decode cX7_parentOf 41 = .ok (.iaload, 1) := by decide +kernel
theorem dX7_parentOf_42 : decode cX7_parentOf 42 = .ok (.istore_n 3, 1) := by decide +kernel
theorem dX7_parentOf_43 : decode cX7_parentOf 43 = .ok (.aload_n 0, 1) := by decide +kernel
theorem dX7_parentOf_44 : decode cX7_parentOf 44 = .ok (.iconst 0, 1) := by decide +kernel
theorem dX7_parentOf_45 : decode cX7_parentOf 45 = .ok (.putfield 77, 3) := by decide +kernel
theorem dX7_parentOf_48 : decode cX7_parentOf 48 = .ok (.iload_n 3, 1) := by decide +kernel
theorem dX7_parentOf_49 : decode cX7_parentOf 49 = .ok (.iconst (-1), 1) := by decide +kernel
theorem dX7_parentOf_50 : decode cX7_parentOf 50 = .ok (.if_icmp .ne 11, 3) := by decide +kernel
theorem dX7_parentOf_53 : decode cX7_parentOf 53 = .ok (.aload_n 0, 1) := by decide +kernel
theorem dX7_parentOf_54 : decode cX7_parentOf 54 = .ok (.iconst 2, 1) := by decide +kernel
theorem dX7_parentOf_55 : decode cX7_parentOf 55 = .ok (.invokevirtual 91, 3) := by decide +kernel
theorem dX7_parentOf_58 : decode cX7_parentOf 58 = .ok (.goto 4, 3) := by decide +kernel
theorem dX7_parentOf_61 : decode cX7_parentOf 61 = .ok (.iload_n 3, 1) := by decide +kernel
theorem dX7_parentOf_62 : decode cX7_parentOf 62 = .ok (.ireturn, 1) := by decide +kernel
theorem dX7_findsGenerations_0 : decode cX7_findsGenerations 0 = .ok (.iconst 1, 1) := by decide +kernel
theorem dX7_findsGenerations_1 : decode cX7_findsGenerations 1 = .ok (.istore_n 1, 1) := by decide +kernel
theorem dX7_findsGenerations_2 : decode cX7_findsGenerations 2 = .ok (.iload_n 1, 1) := by decide +kernel
theorem dX7_findsGenerations_3 : decode cX7_findsGenerations 3 = .ok (.aload_n 0, 1) := by decide +kernel
theorem dX7_findsGenerations_4 : decode cX7_findsGenerations 4 = .ok (.getfield 21, 3) := by decide +kernel
theorem dX7_findsGenerations_7 : decode cX7_findsGenerations 7 = .ok (.if_icmp .ge 58, 3) := by decide +kernel
theorem dX7_findsGenerations_10 : decode cX7_findsGenerations 10 = .ok (.aload_n 0, 1) := by decide +kernel
theorem dX7_findsGenerations_11 : decode cX7_findsGenerations 11 = .ok (.getfield 18, 3) := by decide +kernel
theorem dX7_findsGenerations_14 : decode cX7_findsGenerations 14 = .ok (.iload_n 1, 1) := by decide +kernel
theorem dX7_findsGenerations_15 : decode cX7_findsGenerations 15 = .ok (.iaload, 1) := by decide +kernel
theorem dX7_findsGenerations_16 : decode cX7_findsGenerations 16 = .ok (.iconst (-1), 1) := by decide +kernel
theorem dX7_findsGenerations_17 : decode cX7_findsGenerations 17 = .ok (.if_icmp .ne 7, 3) := by decide +kernel
theorem dX7_findsGenerations_20 : decode cX7_findsGenerations 20 = .ok (.iconst 0, 1) := by decide +kernel
theorem dX7_findsGenerations_21 : decode cX7_findsGenerations 21 = .ok (.goto 14, 3) := by decide +kernel
theorem dX7_findsGenerations_24 : decode cX7_findsGenerations 24 = .ok (.aload_n 0, 1) := by decide +kernel
theorem dX7_findsGenerations_25 : decode cX7_findsGenerations 25 = .ok (.getfield 74, 3) := by decide +kernel
theorem dX7_findsGenerations_28 : decode cX7_findsGenerations 28 = .ok (.aload_n 0, 1) := by decide +kernel
theorem dX7_findsGenerations_29 : decode cX7_findsGenerations 29 = .ok (.getfield 18, 3) := by decide +kernel
theorem dX7_findsGenerations_32 : decode cX7_findsGenerations 32 = .ok (.iload_n 1, 1) := by decide +kernel
theorem dX7_findsGenerations_33 : decode cX7_findsGenerations 33 = .ok (.iaload, 1) := by decide +kernel
theorem dX7_findsGenerations_34 : decode cX7_findsGenerations 34 = .ok (.iaload, 1) := by decide +kernel
theorem dX7_findsGenerations_35 : decode cX7_findsGenerations 35 = .ok (.istore_n 2, 1) := by decide +kernel
theorem dX7_findsGenerations_36 : decode cX7_findsGenerations 36 = .ok (.aload_n 0, 1) := by decide +kernel
theorem dX7_findsGenerations_37 : decode cX7_findsGenerations 37 = .ok (.getfield 74, 3) := by decide +kernel
theorem dX7_findsGenerations_40 : decode cX7_findsGenerations 40 = .ok (.iload_n 1, 1) := by decide +kernel
theorem dX7_findsGenerations_41 : decode cX7_findsGenerations 41 = .ok (.iconst 1, 1) := by decide +kernel
theorem dX7_findsGenerations_42 : decode cX7_findsGenerations 42 = .ok (.aload_n 0, 1) := by decide +kernel
theorem dX7_findsGenerations_43 : decode cX7_findsGenerations 43 = .ok (.getfield 74, 3) := by decide +kernel
theorem dX7_findsGenerations_46 : decode cX7_findsGenerations 46 = .ok (.aload_n 0, 1) := by decide +kernel
theorem dX7_findsGenerations_47 : decode cX7_findsGenerations 47 = .ok (.getfield 14, 3) := by decide +kernel
theorem dX7_findsGenerations_50 : decode cX7_findsGenerations 50 = .ok (.iload_n 1, 1) := by decide +kernel
theorem dX7_findsGenerations_51 : decode cX7_findsGenerations 51 = .ok (.iaload, 1) := by decide +kernel
theorem dX7_findsGenerations_52 : decode cX7_findsGenerations 52 = .ok (.iaload, 1) := by decide +kernel
theorem dX7_findsGenerations_53 : decode cX7_findsGenerations 53 = .ok (.iload_n 2, 1) := by decide +kernel
theorem dX7_findsGenerations_54 : decode cX7_findsGenerations 54 = .ok (.invokestatic 178, 3) := by decide +kernel
theorem dX7_findsGenerations_57 : decode cX7_findsGenerations 57 = .ok (.iadd, 1) := by decide +kernel
theorem dX7_findsGenerations_58 : decode cX7_findsGenerations 58 = .ok (.iastore, 1) := by decide +kernel
theorem dX7_findsGenerations_59 : decode cX7_findsGenerations 59 = .ok (.iinc 1 1, 3) := by decide +kernel
theorem dX7_findsGenerations_62 : decode cX7_findsGenerations 62 = .ok (.goto (-60), 3) := by decide +kernel
theorem dX7_findsGenerations_65 : decode cX7_findsGenerations 65 = .ok (.return_, 1) := by decide +kernel
theorem dX7_generation_0 : decode cX7_generation 0 = .ok (.aload_n 0, 1) := by decide +kernel
theorem dX7_generation_1 : decode cX7_generation 1 = .ok (.aload_n 0, 1) := by decide +kernel
theorem dX7_generation_2 : decode cX7_generation 2 = .ok (.iload_n 1, 1) := by decide +kernel
theorem dX7_generation_3 : decode cX7_generation 3 = .ok (.invokevirtual 117, 3) := by decide +kernel
theorem dX7_generation_6 : decode cX7_generation 6 = .ok (.ifCond .eq 7, 3) := by decide +kernel
theorem dX7_generation_9 : decode cX7_generation 9 = .ok (.iconst 0, 1) := by decide +kernel
theorem dX7_generation_10 : decode cX7_generation 10 = .ok (.goto 4, 3) := by decide +kernel
theorem dX7_generation_13 : decode cX7_generation 13 = .ok (.iconst 1, 1) := by decide +kernel
theorem dX7_generation_14 : decode cX7_generation 14 = .ok (.putfield 77, 3) := by decide +kernel
theorem dX7_generation_17 : decode cX7_generation 17 = .ok (.aload_n 0, 1) := by decide +kernel
theorem dX7_generation_18 : decode cX7_generation 18 = .ok (.getfield 77, 3) := by decide +kernel
theorem dX7_generation_21 : decode cX7_generation 21 = .ok (.ifCond .le 5, 3) := by decide +kernel
theorem dX7_generation_24 : decode cX7_generation 24 = .ok (.iconst 0, 1) := by decide +kernel
theorem dX7_generation_25 : decode cX7_generation 25 = .ok (.ireturn, 1) := by decide +kernel
theorem dX7_generation_26 : decode cX7_generation 26 = .ok (.aload_n 0, 1) := by decide +kernel
theorem dX7_generation_27 : decode cX7_generation 27 = .ok (.invokevirtual 183, 3) := by decide +kernel
theorem dX7_generation_30 : decode cX7_generation 30 = .ok (.aload_n 0, 1) := by decide +kernel
theorem dX7_generation_31 : decode cX7_generation 31 = .ok (.getfield 74, 3) := by decide +kernel
theorem dX7_generation_34 : decode cX7_generation 34 = .ok (.iload_n 1, 1) := by decide +kernel
theorem dX7_generation_35 : decode cX7_generation 35 = .ok (.iaload, 1) := by decide +kernel
theorem dX7_generation_36 : decode cX7_generation 36 = .ok (.ireturn, 1) := by decide +kernel
theorem dX7_areCommits_0 : decode cX7_areCommits 0 = .ok (.aload_n 0, 1) := by decide +kernel
theorem dX7_areCommits_1 : decode cX7_areCommits 1 = .ok (.aload_n 0, 1) := by decide +kernel
theorem dX7_areCommits_2 : decode cX7_areCommits 2 = .ok (.iload_n 1, 1) := by decide +kernel
theorem dX7_areCommits_3 : decode cX7_areCommits 3 = .ok (.invokevirtual 117, 3) := by decide +kernel
theorem dX7_areCommits_6 : decode cX7_areCommits 6 = .ok (.ifCond .eq 15, 3) := by decide +kernel
theorem dX7_areCommits_9 : decode cX7_areCommits 9 = .ok (.aload_n 0, 1) := by decide +kernel
theorem dX7_areCommits_10 : decode cX7_areCommits 10 = .ok (.iload_n 2, 1) := by decide +kernel
theorem dX7_areCommits_11 : decode cX7_areCommits 11 = .ok (.invokevirtual 117, 3) := by decide +kernel
theorem dX7_areCommits_14 : decode cX7_areCommits 14 = .ok (.ifCond .eq 7, 3) := by decide +kernel
theorem dX7_areCommits_17 : decode cX7_areCommits 17 = .ok (.iconst 0, 1) := by decide +kernel
theorem dX7_areCommits_18 : decode cX7_areCommits 18 = .ok (.goto 4, 3) := by decide +kernel
theorem dX7_areCommits_21 : decode cX7_areCommits 21 = .ok (.iconst 1, 1) := by decide +kernel
theorem dX7_areCommits_22 : decode cX7_areCommits 22 = .ok (.putfield 77, 3) := by decide +kernel
theorem dX7_areCommits_25 : decode cX7_areCommits 25 = .ok (.aload_n 0, 1) := by decide +kernel
theorem dX7_areCommits_26 : decode cX7_areCommits 26 = .ok (.getfield 77, 3) := by decide +kernel
theorem dX7_areCommits_29 : decode cX7_areCommits 29 = .ok (.ifCond .ne 7, 3) := by decide +kernel
theorem dX7_areCommits_32 : decode cX7_areCommits 32 = .ok (.iconst 1, 1) := by decide +kernel
theorem dX7_areCommits_33 : decode cX7_areCommits 33 = .ok (.goto 4, 3) := by decide +kernel
theorem dX7_areCommits_36 : decode cX7_areCommits 36 = .ok (.iconst 0, 1) := by decide +kernel
theorem dX7_areCommits_37 : decode cX7_areCommits 37 = .ok (.ireturn, 1) := by decide +kernel
theorem dX7_isAncestor_0 : decode cX7_isAncestor 0 = .ok (.aload_n 0, 1) := by decide +kernel
theorem dX7_isAncestor_1 : decode cX7_isAncestor 1 = .ok (.iload_n 1, 1) := by decide +kernel
theorem dX7_isAncestor_2 : decode cX7_isAncestor 2 = .ok (.iload_n 2, 1) := by decide +kernel
theorem dX7_isAncestor_3 : decode cX7_isAncestor 3 = .ok (.invokevirtual 186, 3) := by decide +kernel
theorem dX7_isAncestor_6 : decode cX7_isAncestor 6 = .ok (.ifCond .eq 16, 3) := by decide +kernel
theorem dX7_isAncestor_9 : decode cX7_isAncestor 9 = .ok (.aload_n 0, 1) := by decide +kernel
theorem dX7_isAncestor_10 : decode cX7_isAncestor 10 = .ok (.iload_n 1, 1) := by decide +kernel
theorem dX7_isAncestor_11 : decode cX7_isAncestor 11 = .ok (.iload_n 2, 1) := by decide +kernel
theorem dX7_isAncestor_12 : decode cX7_isAncestor 12 = .ok (.invokevirtual 164, 3) := by decide +kernel
theorem dX7_isAncestor_15 : decode cX7_isAncestor 15 = .ok (.ifCond .eq 7, 3) := by decide +kernel
theorem dX7_isAncestor_18 : decode cX7_isAncestor 18 = .ok (.iconst 1, 1) := by decide +kernel
theorem dX7_isAncestor_19 : decode cX7_isAncestor 19 = .ok (.goto 4, 3) := by decide +kernel
theorem dX7_isAncestor_22 : decode cX7_isAncestor 22 = .ok (.iconst 0, 1) := by decide +kernel
theorem dX7_isAncestor_23 : decode cX7_isAncestor 23 = .ok (.ireturn, 1) := by decide +kernel
theorem dX7_isAncestorByWalking_0 : decode cX7_isAncestorByWalking 0 = .ok (.aload_n 0, 1) := by decide +kernel
theorem dX7_isAncestorByWalking_1 : decode cX7_isAncestorByWalking 1 = .ok (.iload_n 1, 1) := by decide +kernel
theorem dX7_isAncestorByWalking_2 : decode cX7_isAncestorByWalking 2 = .ok (.iload_n 2, 1) := by decide +kernel
theorem dX7_isAncestorByWalking_3 : decode cX7_isAncestorByWalking 3 = .ok (.invokevirtual 189, 3) := by decide +kernel
theorem dX7_isAncestorByWalking_6 : decode cX7_isAncestorByWalking 6 = .ok (.ireturn, 1) := by decide +kernel
theorem dX7_base_0 : decode cX7_base 0 = .ok (.aload_n 0, 1) := by decide +kernel
theorem dX7_base_1 : decode cX7_base 1 = .ok (.iload_n 1, 1) := by decide +kernel
theorem dX7_base_2 : decode cX7_base 2 = .ok (.iload_n 2, 1) := by decide +kernel
theorem dX7_base_3 : decode cX7_base 3 = .ok (.invokevirtual 186, 3) := by decide +kernel
theorem dX7_base_6 : decode cX7_base 6 = .ok (.ifCond .eq 12, 3) := by decide +kernel
theorem dX7_base_9 : decode cX7_base 9 = .ok (.aload_n 0, 1) := by decide +kernel
theorem dX7_base_10 : decode cX7_base 10 = .ok (.iload_n 1, 1) := by decide +kernel
theorem dX7_base_11 : decode cX7_base 11 = .ok (.iload_n 2, 1) := by decide +kernel
theorem dX7_base_12 : decode cX7_base 12 = .ok (.invokevirtual 168, 3) := by decide +kernel
theorem dX7_base_15 : decode cX7_base 15 = .ok (.goto 4, 3) := by decide +kernel
theorem dX7_base_18 : decode cX7_base 18 = .ok (.iconst 0, 1) := by decide +kernel
theorem dX7_base_19 : decode cX7_base 19 = .ok (.ireturn, 1) := by decide +kernel
theorem dX7_baseByWalking_0 : decode cX7_baseByWalking 0 = .ok (.aload_n 0, 1) := by decide +kernel
theorem dX7_baseByWalking_1 : decode cX7_baseByWalking 1 = .ok (.iload_n 1, 1) := by decide +kernel
theorem dX7_baseByWalking_2 : decode cX7_baseByWalking 2 = .ok (.iload_n 2, 1) := by decide +kernel
theorem dX7_baseByWalking_3 : decode cX7_baseByWalking 3 = .ok (.invokevirtual 192, 3) := by decide +kernel
theorem dX7_baseByWalking_6 : decode cX7_baseByWalking 6 = .ok (.ireturn, 1) := by decide +kernel
theorem dX7_bases_0 : decode cX7_bases 0 = .ok (.aload_n 0, 1) := by decide +kernel
theorem dX7_bases_1 : decode cX7_bases 1 = .ok (.iload_n 1, 1) := by decide +kernel
theorem dX7_bases_2 : decode cX7_bases 2 = .ok (.iload_n 2, 1) := by decide +kernel
theorem dX7_bases_3 : decode cX7_bases 3 = .ok (.invokevirtual 186, 3) := by decide +kernel
theorem dX7_bases_6 : decode cX7_bases 6 = .ok (.ifCond .eq 12, 3) := by decide +kernel
theorem dX7_bases_9 : decode cX7_bases 9 = .ok (.aload_n 0, 1) := by decide +kernel
theorem dX7_bases_10 : decode cX7_bases 10 = .ok (.iload_n 1, 1) := by decide +kernel
theorem dX7_bases_11 : decode cX7_bases 11 = .ok (.iload_n 2, 1) := by decide +kernel
theorem dX7_bases_12 : decode cX7_bases 12 = .ok (.invokevirtual 124, 3) := by decide +kernel
theorem dX7_bases_15 : decode cX7_bases 15 = .ok (.goto 4, 3) := by decide +kernel
theorem dX7_bases_18 : decode cX7_bases 18 = .ok (.iconst 0, 1) := by decide +kernel
theorem dX7_bases_19 : decode cX7_bases 19 = .ok (.ireturn, 1) := by decide +kernel
theorem dX7_movedTo_0 : decode cX7_movedTo 0 = .ok (.aload_n 0, 1) := by decide +kernel
theorem dX7_movedTo_1 : decode cX7_movedTo 1 = .ok (.iload_n 1, 1) := by decide +kernel
theorem dX7_movedTo_2 : decode cX7_movedTo 2 = .ok (.iload_n 2, 1) := by decide +kernel
theorem dX7_movedTo_3 : decode cX7_movedTo 3 = .ok (.invokevirtual 186, 3) := by decide +kernel
theorem dX7_movedTo_6 : decode cX7_movedTo 6 = .ok (.ifCond .eq 10, 3) := by decide +kernel
theorem dX7_movedTo_9 : decode cX7_movedTo 9 = .ok (.iload_n 3, 1) := by decide +kernel
theorem dX7_movedTo_10 : decode cX7_movedTo 10 = .ok (.invokestatic 84, 3) := by decide +kernel
theorem dX7_movedTo_13 : decode cX7_movedTo 13 = .ok (.ifCond .ne 9, 3) := by decide +kernel
theorem dX7_movedTo_16 : decode cX7_movedTo 16 = .ok (.aload_n 0, 1) := by decide +kernel
theorem dX7_movedTo_17 : decode cX7_movedTo 17 = .ok (.iconst 1, 1) := by decide +kernel
theorem dX7_movedTo_18 : decode cX7_movedTo 18 = .ok (.invokevirtual 91, 3) := by decide +kernel
theorem dX7_movedTo_21 : decode cX7_movedTo 21 = .ok (.ireturn, 1) := by decide +kernel
theorem dX7_movedTo_22 : decode cX7_movedTo 22 = .ok (.aload_n 0, 1) := by decide +kernel
theorem dX7_movedTo_23 : decode cX7_movedTo 23 = .ok (.aload_n 0, 1) := by decide +kernel
theorem dX7_movedTo_24 : decode cX7_movedTo 24 = .ok (.getfield 11, 3) := by decide +kernel
theorem dX7_movedTo_27 : decode cX7_movedTo 27 = .ok (.iload_n 1, 1) := by decide +kernel
theorem dX7_movedTo_28 : decode cX7_movedTo 28 = .ok (.aaload, 1) := by decide +kernel
theorem dX7_movedTo_29 : decode cX7_movedTo 29 = .ok (.aload_n 0, 1) := by decide +kernel
theorem dX7_movedTo_30 : decode cX7_movedTo 30 = .ok (.getfield 11, 3) := by decide +kernel
theorem dX7_movedTo_33 : decode cX7_movedTo 33 = .ok (.iload_n 2, 1) := by decide +kernel
theorem dX7_movedTo_34 : decode cX7_movedTo 34 = .ok (.aaload, 1) := by decide +kernel
theorem dX7_movedTo_35 : decode cX7_movedTo 35 = .ok (.aload_n 0, 1) := by decide +kernel
theorem dX7_movedTo_36 : decode cX7_movedTo 36 = .ok (.getfield 31, 3) := by decide +kernel
theorem dX7_movedTo_39 : decode cX7_movedTo 39 = .ok (.invokevirtual 150, 3) := by decide +kernel
theorem dX7_movedTo_42 : decode cX7_movedTo 42 = .ok (.aload_n 0, 1) := by decide +kernel
theorem dX7_movedTo_43 : decode cX7_movedTo 43 = .ok (.getfield 31, 3) := by decide +kernel
theorem dX7_movedTo_46 : decode cX7_movedTo 46 = .ok (.iload_n 3, 1) := by decide +kernel
theorem dX7_movedTo_47 : decode cX7_movedTo 47 = .ok (.iaload, 1) := by decide +kernel
theorem dX7_movedTo_48 : decode cX7_movedTo 48 = .ok (.iconst (-1), 1) := by decide +kernel
theorem dX7_movedTo_49 : decode cX7_movedTo 49 = .ok (.if_icmp .ne 11, 3) := by decide +kernel
theorem dX7_movedTo_52 : decode cX7_movedTo 52 = .ok (.aload_n 0, 1) := by decide +kernel
theorem dX7_movedTo_53 : decode cX7_movedTo 53 = .ok (.iconst 2, 1) := by decide +kernel
theorem dX7_movedTo_54 : decode cX7_movedTo 54 = .ok (.invokevirtual 91, 3) := by decide +kernel
theorem dX7_movedTo_57 : decode cX7_movedTo 57 = .ok (.goto 9, 3) := by decide +kernel
theorem dX7_movedTo_60 : decode cX7_movedTo 60 = .ok (.aload_n 0, 1) := by decide +kernel
theorem dX7_movedTo_61 : decode cX7_movedTo 61 = .ok (.getfield 31, 3) := by decide +kernel
theorem dX7_movedTo_64 : decode cX7_movedTo 64 = .ok (.iload_n 3, 1) := by decide +kernel
theorem dX7_movedTo_65 : decode cX7_movedTo 65 = .ok (.iaload, 1) := by decide +kernel
theorem dX7_movedTo_66 : decode cX7_movedTo 66 = .ok (.ireturn, 1) := by decide +kernel
theorem dX7_conflicts_0 : decode cX7_conflicts 0 = .ok (.aload_n 0, 1) := by decide +kernel
theorem dX7_conflicts_1 : decode cX7_conflicts 1 = .ok (.iload_n 1, 1) := by decide +kernel
theorem dX7_conflicts_2 : decode cX7_conflicts 2 = .ok (.iload_n 2, 1) := by decide +kernel
theorem dX7_conflicts_3 : decode cX7_conflicts 3 = .ok (.invokevirtual 186, 3) := by decide +kernel
theorem dX7_conflicts_6 : decode cX7_conflicts 6 = .ok (.ifCond .eq 33, 3) := by decide +kernel
theorem dX7_conflicts_9 : decode cX7_conflicts 9 = .ok (.aload_n 0, 1) := by decide +kernel
theorem dX7_conflicts_10 : decode cX7_conflicts 10 = .ok (.aload_n 0, 1) := by decide +kernel
theorem dX7_conflicts_11 : decode cX7_conflicts 11 = .ok (.getfield 11, 3) := by decide +kernel
theorem dX7_conflicts_14 : decode cX7_conflicts 14 = .ok (.aload_n 0, 1) := by decide +kernel
theorem dX7_conflicts_15 : decode cX7_conflicts 15 = .ok (.iload_n 1, 1) := by decide +kernel
theorem dX7_conflicts_16 : decode cX7_conflicts 16 = .ok (.iload_n 2, 1) := by decide +kernel
theorem dX7_conflicts_17 : decode cX7_conflicts 17 = .ok (.invokevirtual 168, 3) := by decide +kernel
theorem dX7_conflicts_20 : decode cX7_conflicts 20 = .ok (.aaload, 1) := by decide +kernel
theorem dX7_conflicts_21 : decode cX7_conflicts 21 = .ok (.aload_n 0, 1) := by decide +kernel
theorem dX7_conflicts_22 : decode cX7_conflicts 22 = .ok (.getfield 11, 3) := by decide +kernel
theorem dX7_conflicts_25 : decode cX7_conflicts 25 = .ok (.iload_n 1, 1) := by decide +kernel
theorem dX7_conflicts_26 : decode cX7_conflicts 26 = .ok (.aaload, 1) := by decide +kernel
theorem dX7_conflicts_27 : decode cX7_conflicts 27 = .ok (.aload_n 0, 1) := by decide +kernel
theorem dX7_conflicts_28 : decode cX7_conflicts 28 = .ok (.getfield 11, 3) := by decide +kernel
theorem dX7_conflicts_31 : decode cX7_conflicts 31 = .ok (.iload_n 2, 1) := by decide +kernel
theorem dX7_conflicts_32 : decode cX7_conflicts 32 = .ok (.aaload, 1) := by decide +kernel
theorem dX7_conflicts_33 : decode cX7_conflicts 33 = .ok (.invokevirtual 171, 3) := by decide +kernel
theorem dX7_conflicts_36 : decode cX7_conflicts 36 = .ok (.goto 4, 3) := by decide +kernel
theorem dX7_conflicts_39 : decode cX7_conflicts 39 = .ok (.iconst 0, 1) := by decide +kernel
theorem dX7_conflicts_40 : decode cX7_conflicts 40 = .ok (.ireturn, 1) := by decide +kernel
theorem dX7_lastChange_0 : decode cX7_lastChange 0 = .ok (.aload_n 0, 1) := by decide +kernel
theorem dX7_lastChange_1 : decode cX7_lastChange 1 = .ok (.iload_n 1, 1) := by decide +kernel
theorem dX7_lastChange_2 : decode cX7_lastChange 2 = .ok (.invokestatic 84, 3) := by decide +kernel
theorem dX7_lastChange_5 : decode cX7_lastChange 5 = .ok (.ifCond .eq 7, 3) := by decide +kernel
theorem dX7_lastChange_8 : decode cX7_lastChange 8 = .ok (.iconst 0, 1) := by decide +kernel
theorem dX7_lastChange_9 : decode cX7_lastChange 9 = .ok (.goto 4, 3) := by decide +kernel
theorem dX7_lastChange_12 : decode cX7_lastChange 12 = .ok (.iconst 1, 1) := by decide +kernel
theorem dX7_lastChange_13 : decode cX7_lastChange 13 = .ok (.putfield 77, 3) := by decide +kernel
theorem dX7_lastChange_16 : decode cX7_lastChange 16 = .ok (.aload_n 0, 1) := by decide +kernel
theorem dX7_lastChange_17 : decode cX7_lastChange 17 = .ok (.getfield 77, 3) := by decide +kernel
theorem dX7_lastChange_20 : decode cX7_lastChange 20 = .ok (.ifCond .le 5, 3) := by decide +kernel
theorem dX7_lastChange_23 : decode cX7_lastChange 23 = .ok (.iconst 0, 1) := by decide +kernel
theorem dX7_lastChange_24 : decode cX7_lastChange 24 = .ok (.ireturn, 1) := by decide +kernel
theorem dX7_lastChange_25 : decode cX7_lastChange 25 = .ok (.aload_n 0, 1) := by decide +kernel
theorem dX7_lastChange_26 : decode cX7_lastChange 26 = .ok (.getfield 25, 3) := by decide +kernel
theorem dX7_lastChange_29 : decode cX7_lastChange 29 = .ok (.aload_n 0, 1) := by decide +kernel
theorem dX7_lastChange_30 : decode cX7_lastChange 30 = .ok (.getfield 95, 3) := by decide +kernel
theorem dX7_lastChange_33 : decode cX7_lastChange 33 = .ok (.iaload, 1) := by decide +kernel
theorem dX7_lastChange_34 : decode cX7_lastChange 34 = .ok (.istore_n 2, 1) := by decide +kernel
theorem dX7_lastChange_35 : decode cX7_lastChange 35 = .ok (.iload_n 2, 1) := by decide +kernel
theorem dX7_lastChange_36 : decode cX7_lastChange 36 = .ok (.ifCond .le 39, 3) := by decide +kernel
theorem dX7_lastChange_39 : decode cX7_lastChange 39 = .ok (.aload_n 0, 1) := by decide +kernel
theorem dX7_lastChange_40 : decode cX7_lastChange 40 = .ok (.getfield 11, 3) := by decide +kernel
theorem dX7_lastChange_43 : decode cX7_lastChange 43 = .ok (.iload_n 2, 1) := by decide +kernel
theorem dX7_lastChange_44 : decode cX7_lastChange 44 = .ok (.aaload, 1) := by decide +kernel
theorem dX7_lastChange_45 : decode cX7_lastChange 45 = .ok (.iload_n 1, 1) := by decide +kernel
theorem dX7_lastChange_46 : decode cX7_lastChange 46 = .ok (.iaload, 1) := by decide +kernel
theorem dX7_lastChange_47 : decode cX7_lastChange 47 = .ok (.aload_n 0, 1) := by decide +kernel
theorem dX7_lastChange_48 : decode cX7_lastChange 48 = .ok (.getfield 11, 3) := by decide +kernel
theorem dX7_lastChange_51 : decode cX7_lastChange 51 = .ok (.aload_n 0, 1) := by decide +kernel
theorem dX7_lastChange_52 : decode cX7_lastChange 52 = .ok (.getfield 14, 3) := by decide +kernel
theorem dX7_lastChange_55 : decode cX7_lastChange 55 = .ok (.iload_n 2, 1) := by decide +kernel
theorem dX7_lastChange_56 : decode cX7_lastChange 56 = .ok (.iaload, 1) := by decide +kernel
theorem dX7_lastChange_57 : decode cX7_lastChange 57 = .ok (.aaload, 1) := by decide +kernel
theorem dX7_lastChange_58 : decode cX7_lastChange 58 = .ok (.iload_n 1, 1) := by decide +kernel
theorem dX7_lastChange_59 : decode cX7_lastChange 59 = .ok (.iaload, 1) := by decide +kernel
theorem dX7_lastChange_60 : decode cX7_lastChange 60 = .ok (.if_icmp .eq 5, 3) := by decide +kernel
theorem dX7_lastChange_63 : decode cX7_lastChange 63 = .ok (.iload_n 2, 1) := by decide +kernel
theorem dX7_lastChange_64 : decode cX7_lastChange 64 = .ok (.ireturn, 1) := by decide +kernel
theorem dX7_lastChange_65 : decode cX7_lastChange 65 = .ok (.aload_n 0, 1) := by decide +kernel
theorem dX7_lastChange_66 : decode cX7_lastChange 66 = .ok (.getfield 14, 3) := by decide +kernel
theorem dX7_lastChange_69 : decode cX7_lastChange 69 = .ok (.iload_n 2, 1) := by decide +kernel
theorem dX7_lastChange_70 : decode cX7_lastChange 70 = .ok (.iaload, 1) := by decide +kernel
theorem dX7_lastChange_71 : decode cX7_lastChange 71 = .ok (.istore_n 2, 1) := by decide +kernel
theorem dX7_lastChange_72 : decode cX7_lastChange 72 = .ok (.goto (-37), 3) := by decide +kernel
theorem dX7_lastChange_75 : decode cX7_lastChange 75 = .ok (.aload_n 0, 1) := by decide +kernel
theorem dX7_lastChange_76 : decode cX7_lastChange 76 = .ok (.iconst 2, 1) := by decide +kernel
theorem dX7_lastChange_77 : decode cX7_lastChange 77 = .ok (.invokevirtual 91, 3) := by decide +kernel
theorem dX7_lastChange_80 : decode cX7_lastChange 80 = .ok (.ireturn, 1) := by decide +kernel
theorem dX7_packedAt_0 : decode cX7_packedAt 0 = .ok (.iconst 0, 1) := by decide +kernel
theorem dX7_packedAt_1 : decode cX7_packedAt 1 = .ok (.istore_n 2, 1) := by decide +kernel
theorem dX7_packedAt_2 : decode cX7_packedAt 2 = .ok (.iload_n 2, 1) := by decide +kernel
theorem dX7_packedAt_3 : decode cX7_packedAt 3 = .ok (.aload_n 0, 1) := by decide +kernel
theorem dX7_packedAt_4 : decode cX7_packedAt 4 = .ok (.getfield 195, 3) := by decide +kernel
theorem dX7_packedAt_7 : decode cX7_packedAt 7 = .ok (.if_icmp .ge 21, 3) := by decide +kernel
theorem dX7_packedAt_10 : decode cX7_packedAt 10 = .ok (.aload_n 0, 1) := by decide +kernel
theorem dX7_packedAt_11 : decode cX7_packedAt 11 = .ok (.getfield 53, 3) := by decide +kernel
theorem dX7_packedAt_14 : decode cX7_packedAt 14 = .ok (.iload_n 2, 1) := by decide +kernel
theorem dX7_packedAt_15 : decode cX7_packedAt 15 = .ok (.iaload, 1) := by decide +kernel
theorem dX7_packedAt_16 : decode cX7_packedAt 16 = .ok (.iload_n 1, 1) := by decide +kernel
theorem dX7_packedAt_17 : decode cX7_packedAt 17 = .ok (.if_icmp .ne 5, 3) := by decide +kernel
theorem dX7_packedAt_20 : decode cX7_packedAt 20 = .ok (.iload_n 2, 1) := by decide +kernel
theorem dX7_packedAt_21 : decode cX7_packedAt 21 = .ok (.ireturn, 1) := by decide +kernel
theorem dX7_packedAt_22 : decode cX7_packedAt 22 = .ok (.iinc 2 1, 3) := by decide +kernel
theorem dX7_packedAt_25 : decode cX7_packedAt 25 = .ok (.goto (-23), 3) := by decide +kernel
theorem dX7_packedAt_28 : decode cX7_packedAt 28 = .ok (.iconst (-1), 1) := by decide +kernel
theorem dX7_packedAt_29 : decode cX7_packedAt 29 = .ok (.ireturn, 1) := by decide +kernel
theorem dX7_packs_0 : decode cX7_packs 0 = .ok (.iconst (-1), 1) := by decide +kernel
theorem dX7_packs_1 : decode cX7_packs 1 = .ok (.istore_n 2, 1) := by decide +kernel
theorem dX7_packs_2 : decode cX7_packs 2 = .ok (.iconst 4, 1) := by decide +kernel
theorem dX7_packs_3 : decode cX7_packs 3 = .ok (.istore_n 3, 1) := by decide +kernel
theorem dX7_packs_4 : decode cX7_packs 4 = .ok (.iconst 0, 1) := by decide +kernel
theorem dX7_packs_5 : decode cX7_packs 5 = .ok (.istore 4, 2) := by decide +kernel
theorem dX7_packs_7 : decode cX7_packs 7 = .ok (.iload 4, 2) := by decide +kernel
theorem dX7_packs_9 : decode cX7_packs 9 = .ok (.aload_n 0, 1) := by decide +kernel
theorem dX7_packs_10 : decode cX7_packs 10 = .ok (.getfield 195, 3) := by decide +kernel
theorem dX7_packs_13 : decode cX7_packs 13 = .ok (.if_icmp .ge 47, 3) := by decide +kernel
theorem dX7_packs_16 : decode cX7_packs 16 = .ok (.iconst 5, 1) := by decide +kernel
theorem dX7_packs_17 : decode cX7_packs 17 = .ok (.aload_n 0, 1) := by decide +kernel
theorem dX7_packs_18 : decode cX7_packs 18 = .ok (.getfield 53, 3) := by decide +kernel
theorem dX7_packs_21 : decode cX7_packs 21 = .ok (.iload 4, 2) := by decide +kernel
theorem dX7_packs_23 : decode cX7_packs 23 = .ok (.iaload, 1) := by decide +kernel
theorem dX7_packs_24 : decode cX7_packs 24 = .ok (.iload_n 1, 1) := by decide +kernel
theorem dX7_packs_25 : decode cX7_packs 25 = .ok (.invokestatic 135, 3) := by decide +kernel
theorem dX7_packs_28 : decode cX7_packs 28 = .ok (.isub, 1) := by decide +kernel
theorem dX7_packs_29 : decode cX7_packs 29 = .ok (.istore 5, 2) := by decide +kernel
theorem dX7_packs_31 : decode cX7_packs 31 = .ok (.aload_n 0, 1) := by decide +kernel
theorem dX7_packs_32 : decode cX7_packs 32 = .ok (.getfield 59, 3) := by decide +kernel
theorem dX7_packs_35 : decode cX7_packs 35 = .ok (.iload 4, 2) := by decide +kernel
theorem dX7_packs_37 : decode cX7_packs 37 = .ok (.iaload, 1) := by decide +kernel
theorem dX7_packs_38 : decode cX7_packs 38 = .ok (.iconst 2, 1) := by decide +kernel
theorem dX7_packs_39 : decode cX7_packs 39 = .ok (.if_icmp .gt 15, 3) := by decide +kernel
theorem dX7_packs_42 : decode cX7_packs 42 = .ok (.iload 5, 2) := by decide +kernel
theorem dX7_packs_44 : decode cX7_packs 44 = .ok (.iload_n 3, 1) := by decide +kernel
theorem dX7_packs_45 : decode cX7_packs 45 = .ok (.if_icmp .ge 9, 3) := by decide +kernel
theorem dX7_packs_48 : decode cX7_packs 48 = .ok (.iload 4, 2) := by decide +kernel
theorem dX7_packs_50 : decode cX7_packs 50 = .ok (.istore_n 2, 1) := by decide +kernel
theorem dX7_packs_51 : decode cX7_packs 51 = .ok (.iload 5, 2) := by decide +kernel
theorem dX7_packs_53 : decode cX7_packs 53 = .ok (.istore_n 3, 1) := by decide +kernel
theorem dX7_packs_54 : decode cX7_packs 54 = .ok (.iinc 4 1, 3) := by decide +kernel
theorem dX7_packs_57 : decode cX7_packs 57 = .ok (.goto (-50), 3) := by decide +kernel
theorem dX7_packs_60 : decode cX7_packs 60 = .ok (.aload_n 0, 1) := by decide +kernel
theorem dX7_packs_61 : decode cX7_packs 61 = .ok (.getfield 53, 3) := by decide +kernel
theorem dX7_packs_64 : decode cX7_packs 64 = .ok (.aload_n 0, 1) := by decide +kernel
theorem dX7_packs_65 : decode cX7_packs 65 = .ok (.getfield 195, 3) := by decide +kernel
theorem dX7_packs_68 : decode cX7_packs 68 = .ok (.iload_n 1, 1) := by decide +kernel
theorem dX7_packs_69 : decode cX7_packs 69 = .ok (.iastore, 1) := by decide +kernel
theorem dX7_packs_70 : decode cX7_packs 70 = .ok (.aload_n 0, 1) := by decide +kernel
theorem dX7_packs_71 : decode cX7_packs 71 = .ok (.getfield 56, 3) := by decide +kernel
theorem dX7_packs_74 : decode cX7_packs 74 = .ok (.aload_n 0, 1) := by decide +kernel
theorem dX7_packs_75 : decode cX7_packs 75 = .ok (.getfield 195, 3) := by decide +kernel
theorem dX7_packs_78 : decode cX7_packs 78 = .ok (.iload_n 3, 1) := by decide +kernel
theorem dX7_packs_79 : decode cX7_packs 79 = .ok (.iastore, 1) := by decide +kernel
theorem dX7_packs_80 : decode cX7_packs 80 = .ok (.aload_n 0, 1) := by decide +kernel
theorem dX7_packs_81 : decode cX7_packs 81 = .ok (.getfield 59, 3) := by decide +kernel
theorem dX7_packs_84 : decode cX7_packs 84 = .ok (.aload_n 0, 1) := by decide +kernel
theorem dX7_packs_85 : decode cX7_packs 85 = .ok (.getfield 195, 3) := by decide +kernel
theorem dX7_packs_88 : decode cX7_packs 88 = .ok (.iload_n 2, 1) := by decide +kernel
theorem dX7_packs_89 : decode cX7_packs 89 = .ok (.iconst (-1), 1) := by decide +kernel
theorem dX7_packs_90 : decode cX7_packs 90 = .ok (.if_icmp .ne 7, 3) := by decide +kernel
theorem dX7_packs_93 : decode cX7_packs 93 = .ok (.iconst 0, 1) := by decide +kernel
theorem dX7_packs_94 : decode cX7_packs 94 = .ok (.goto 11, 3) := by decide +kernel
theorem dX7_packs_97 : decode cX7_packs 97 = .ok (.aload_n 0, 1) := by decide +kernel
theorem dX7_packs_98 : decode cX7_packs 98 = .ok (.getfield 59, 3) := by decide +kernel
theorem dX7_packs_101 : decode cX7_packs 101 = .ok (.iload_n 2, 1) := by decide +kernel
theorem dX7_packs_102 : decode cX7_packs 102 = .ok (.iaload, 1) := by decide +kernel
theorem dX7_packs_103 : decode cX7_packs 103 = .ok (.iconst 1, 1) := by decide +kernel
theorem dX7_packs_104 : decode cX7_packs 104 = .ok (.iadd, 1) := by decide +kernel
theorem dX7_packs_105 : decode cX7_packs 105 = .ok (.iastore, 1) := by decide +kernel
theorem dX7_packs_106 : decode cX7_packs 106 = .ok (.aload_n 0, 1) := by decide +kernel
theorem dX7_packs_107 : decode cX7_packs 107 = .ok (.getfield 62, 3) := by decide +kernel
theorem dX7_packs_110 : decode cX7_packs 110 = .ok (.aload_n 0, 1) := by decide +kernel
theorem dX7_packs_111 : decode cX7_packs 111 = .ok (.getfield 195, 3) := by decide +kernel
theorem dX7_packs_114 : decode cX7_packs 114 = .ok (.iload_n 2, 1) := by decide +kernel
theorem dX7_packs_115 : decode cX7_packs 115 = .ok (.iastore, 1) := by decide +kernel
theorem dX7_packs_116 : decode cX7_packs 116 = .ok (.aload_n 0, 1) := by decide +kernel
theorem dX7_packs_117 : decode cX7_packs 117 = .ok (.dup, 1) := by decide +kernel
theorem dX7_packs_118 : decode cX7_packs 118 = .ok (.getfield 195, 3) := by decide +kernel
theorem dX7_packs_121 : decode cX7_packs 121 = .ok (.iconst 1, 1) := by decide +kernel
theorem dX7_packs_122 : decode cX7_packs 122 = .ok (.iadd, 1) := by decide +kernel
theorem dX7_packs_123 : decode cX7_packs 123 = .ok (.putfield 195, 3) := by decide +kernel
theorem dX7_packs_126 : decode cX7_packs 126 = .ok (.return_, 1) := by decide +kernel
theorem dX7_packsAll_0 : decode cX7_packsAll 0 = .ok (.aload_n 0, 1) := by decide +kernel
theorem dX7_packsAll_1 : decode cX7_packsAll 1 = .ok (.iconst 0, 1) := by decide +kernel
theorem dX7_packsAll_2 : decode cX7_packsAll 2 = .ok (.putfield 77, 3) := by decide +kernel
theorem dX7_packsAll_5 : decode cX7_packsAll 5 = .ok (.aload_n 0, 1) := by decide +kernel
theorem dX7_packsAll_6 : decode cX7_packsAll 6 = .ok (.iconst 0, 1) := by decide +kernel
theorem dX7_packsAll_7 : decode cX7_packsAll 7 = .ok (.putfield 195, 3) := by decide +kernel
theorem dX7_packsAll_10 : decode cX7_packsAll 10 = .ok (.iconst 0, 1) := by decide +kernel
theorem dX7_packsAll_11 : decode cX7_packsAll 11 = .ok (.istore_n 1, 1) := by decide +kernel
theorem dX7_packsAll_12 : decode cX7_packsAll 12 = .ok (.iload_n 1, 1) := by decide +kernel
theorem dX7_packsAll_13 : decode cX7_packsAll 13 = .ok (.aload_n 0, 1) := by decide +kernel
theorem dX7_packsAll_14 : decode cX7_packsAll 14 = .ok (.getfield 21, 3) := by decide +kernel
theorem dX7_packsAll_17 : decode cX7_packsAll 17 = .ok (.if_icmp .ge 63, 3) := by decide +kernel
theorem dX7_packsAll_20 : decode cX7_packsAll 20 = .ok (.iconst 0, 1) := by decide +kernel
theorem dX7_packsAll_21 : decode cX7_packsAll 21 = .ok (.istore_n 2, 1) := by decide +kernel
theorem dX7_packsAll_22 : decode cX7_packsAll 22 = .ok (.iload_n 2, 1) := by decide +kernel
theorem dX7_packsAll_23 : decode cX7_packsAll 23 = .ok (.bipush 8, 2) := by decide +kernel
theorem dX7_packsAll_25 : decode cX7_packsAll 25 = .ok (.if_icmp .ge 49, 3) := by decide +kernel
theorem dX7_packsAll_28 : decode cX7_packsAll 28 = .ok (.aload_n 0, 1) := by decide +kernel
theorem dX7_packsAll_29 : decode cX7_packsAll 29 = .ok (.getfield 11, 3) := by decide +kernel
theorem dX7_packsAll_32 : decode cX7_packsAll 32 = .ok (.iload_n 1, 1) := by decide +kernel
theorem dX7_packsAll_33 : decode cX7_packsAll 33 = .ok (.aaload, 1) := by decide +kernel
theorem dX7_packsAll_34 : decode cX7_packsAll 34 = .ok (.iload_n 2, 1) := by decide +kernel
theorem dX7_packsAll_35 : decode cX7_packsAll 35 = .ok (.iaload, 1) := by decide +kernel
theorem dX7_packsAll_36 : decode cX7_packsAll 36 = .ok (.iconst (-1), 1) := by decide +kernel
theorem dX7_packsAll_37 : decode cX7_packsAll 37 = .ok (.if_icmp .eq 31, 3) := by decide +kernel
theorem dX7_packsAll_40 : decode cX7_packsAll 40 = .ok (.aload_n 0, 1) := by decide +kernel
theorem dX7_packsAll_41 : decode cX7_packsAll 41 = .ok (.aload_n 0, 1) := by decide +kernel
theorem dX7_packsAll_42 : decode cX7_packsAll 42 = .ok (.getfield 11, 3) := by decide +kernel
theorem dX7_packsAll_45 : decode cX7_packsAll 45 = .ok (.iload_n 1, 1) := by decide +kernel
theorem dX7_packsAll_46 : decode cX7_packsAll 46 = .ok (.aaload, 1) := by decide +kernel
theorem dX7_packsAll_47 : decode cX7_packsAll 47 = .ok (.iload_n 2, 1) := by decide +kernel
theorem dX7_packsAll_48 : decode cX7_packsAll 48 = .ok (.iaload, 1) := by decide +kernel
theorem dX7_packsAll_49 : decode cX7_packsAll 49 = .ok (.invokevirtual 198, 3) := by decide +kernel
theorem dX7_packsAll_52 : decode cX7_packsAll 52 = .ok (.iconst (-1), 1) := by decide +kernel
theorem dX7_packsAll_53 : decode cX7_packsAll 53 = .ok (.if_icmp .ne 15, 3) := by decide +kernel
theorem dX7_packsAll_56 : decode cX7_packsAll 56 = .ok (.aload_n 0, 1) := by decide +kernel
theorem dX7_packsAll_57 : decode cX7_packsAll 57 = .ok (.aload_n 0, 1) := by decide +kernel
theorem dX7_packsAll_58 : decode cX7_packsAll 58 = .ok (.getfield 11, 3) := by decide +kernel
theorem dX7_packsAll_61 : decode cX7_packsAll 61 = .ok (.iload_n 1, 1) := by decide +kernel
theorem dX7_packsAll_62 : decode cX7_packsAll 62 = .ok (.aaload, 1) := by decide +kernel
theorem dX7_packsAll_63 : decode cX7_packsAll 63 = .ok (.iload_n 2, 1) := by decide +kernel
theorem dX7_packsAll_64 : decode cX7_packsAll 64 = .ok (.iaload, 1) := by decide +kernel
theorem dX7_packsAll_65 : decode cX7_packsAll 65 = .ok (.invokevirtual 201, 3) := by decide +kernel
theorem dX7_packsAll_68 : decode cX7_packsAll 68 = .ok (.iinc 2 1, 3) := by decide +kernel
theorem dX7_packsAll_71 : decode cX7_packsAll 71 = .ok (.goto (-49), 3) := by decide +kernel
theorem dX7_packsAll_74 : decode cX7_packsAll 74 = .ok (.iinc 1 1, 3) := by decide +kernel
theorem dX7_packsAll_77 : decode cX7_packsAll 77 = .ok (.goto (-65), 3) := by decide +kernel
theorem dX7_packsAll_80 : decode cX7_packsAll 80 = .ok (.return_, 1) := by decide +kernel
theorem dX7_packed_0 : decode cX7_packed 0 = .ok (.aload_n 0, 1) := by decide +kernel
theorem dX7_packed_1 : decode cX7_packed 1 = .ok (.invokevirtual 204, 3) := by decide +kernel
theorem dX7_packed_4 : decode cX7_packed 4 = .ok (.aload_n 0, 1) := by decide +kernel
theorem dX7_packed_5 : decode cX7_packed 5 = .ok (.getfield 195, 3) := by decide +kernel
theorem dX7_packed_8 : decode cX7_packed 8 = .ok (.ireturn, 1) := by decide +kernel
theorem dX7_depthOf_0 : decode cX7_depthOf 0 = .ok (.aload_n 0, 1) := by decide +kernel
theorem dX7_depthOf_1 : decode cX7_depthOf 1 = .ok (.invokevirtual 204, 3) := by decide +kernel
theorem dX7_depthOf_4 : decode cX7_depthOf 4 = .ok (.aload_n 0, 1) := by decide +kernel
theorem dX7_depthOf_5 : decode cX7_depthOf 5 = .ok (.iload_n 1, 1) := by decide +kernel
theorem dX7_depthOf_6 : decode cX7_depthOf 6 = .ok (.invokevirtual 198, 3) := by decide +kernel
theorem dX7_depthOf_9 : decode cX7_depthOf 9 = .ok (.istore_n 2, 1) := by decide +kernel
theorem dX7_depthOf_10 : decode cX7_depthOf 10 = .ok (.iload_n 2, 1) := by decide +kernel
theorem dX7_depthOf_11 : decode cX7_depthOf 11 = .ok (.iconst (-1), 1) := by decide +kernel
theorem dX7_depthOf_12 : decode cX7_depthOf 12 = .ok (.if_icmp .ne 11, 3) := by decide +kernel
theorem dX7_depthOf_15 : decode cX7_depthOf 15 = .ok (.aload_n 0, 1) := by decide +kernel
theorem dX7_depthOf_16 : decode cX7_depthOf 16 = .ok (.iconst 1, 1) := by decide +kernel
theorem dX7_depthOf_17 : decode cX7_depthOf 17 = .ok (.invokevirtual 91, 3) := by decide +kernel
theorem dX7_depthOf_20 : decode cX7_depthOf 20 = .ok (.goto 9, 3) := by decide +kernel
theorem dX7_depthOf_23 : decode cX7_depthOf 23 = .ok (.aload_n 0, 1) := by decide +kernel
theorem dX7_depthOf_24 : decode cX7_depthOf 24 = .ok (.getfield 59, 3) := by decide +kernel
theorem dX7_depthOf_27 : decode cX7_depthOf 27 = .ok (.iload_n 2, 1) := by decide +kernel
theorem dX7_depthOf_28 : decode cX7_depthOf 28 = .ok (.iaload, 1) := by decide +kernel
theorem dX7_depthOf_29 : decode cX7_depthOf 29 = .ok (.ireturn, 1) := by decide +kernel
theorem dX7_packedFrom_0 : decode cX7_packedFrom 0 = .ok (.aload_n 0, 1) := by decide +kernel
theorem dX7_packedFrom_1 : decode cX7_packedFrom 1 = .ok (.invokevirtual 204, 3) := by decide +kernel
theorem dX7_packedFrom_4 : decode cX7_packedFrom 4 = .ok (.aload_n 0, 1) := by decide +kernel
theorem dX7_packedFrom_5 : decode cX7_packedFrom 5 = .ok (.iload_n 1, 1) := by decide +kernel
theorem dX7_packedFrom_6 : decode cX7_packedFrom 6 = .ok (.invokevirtual 198, 3) := by decide +kernel
theorem dX7_packedFrom_9 : decode cX7_packedFrom 9 = .ok (.istore_n 2, 1) := by decide +kernel
theorem dX7_packedFrom_10 : decode cX7_packedFrom 10 = .ok (.iload_n 2, 1) := by decide +kernel
theorem dX7_packedFrom_11 : decode cX7_packedFrom 11 = .ok (.iconst (-1), 1) := by decide +kernel
theorem dX7_packedFrom_12 : decode cX7_packedFrom 12 = .ok (.if_icmp .eq 13, 3) := by decide +kernel
theorem dX7_packedFrom_15 : decode cX7_packedFrom 15 = .ok (.aload_n 0, 1) := by decide +kernel
theorem dX7_packedFrom_16 : decode cX7_packedFrom 16 = .ok (.getfield 62, 3) := by decide +kernel
theorem dX7_packedFrom_19 : decode cX7_packedFrom 19 = .ok (.iload_n 2, 1) := by decide +kernel
theorem dX7_packedFrom_20 : decode cX7_packedFrom 20 = .ok (.iaload, 1) := by decide +kernel
theorem dX7_packedFrom_21 : decode cX7_packedFrom 21 = .ok (.iconst (-1), 1) := by decide +kernel
theorem dX7_packedFrom_22 : decode cX7_packedFrom 22 = .ok (.if_icmp .ne 11, 3) := by decide +kernel
theorem dX7_packedFrom_25 : decode cX7_packedFrom 25 = .ok (.aload_n 0, 1) := by decide +kernel
theorem dX7_packedFrom_26 : decode cX7_packedFrom 26 = .ok (.iconst 1, 1) := by decide +kernel
theorem dX7_packedFrom_27 : decode cX7_packedFrom 27 = .ok (.invokevirtual 91, 3) := by decide +kernel
theorem dX7_packedFrom_30 : decode cX7_packedFrom 30 = .ok (.goto 14, 3) := by decide +kernel
theorem dX7_packedFrom_33 : decode cX7_packedFrom 33 = .ok (.aload_n 0, 1) := by decide +kernel
theorem dX7_packedFrom_34 : decode cX7_packedFrom 34 = .ok (.getfield 53, 3) := by decide +kernel
theorem dX7_packedFrom_37 : decode cX7_packedFrom 37 = .ok (.aload_n 0, 1) := by decide +kernel
theorem dX7_packedFrom_38 : decode cX7_packedFrom 38 = .ok (.getfield 62, 3) := by decide +kernel
theorem dX7_packedFrom_41 : decode cX7_packedFrom 41 = .ok (.iload_n 2, 1) := by decide +kernel
theorem dX7_packedFrom_42 : decode cX7_packedFrom 42 = .ok (.iaload, 1) := by decide +kernel
theorem dX7_packedFrom_43 : decode cX7_packedFrom 43 = .ok (.iaload, 1) := by decide +kernel
theorem dX7_packedFrom_44 : decode cX7_packedFrom 44 = .ok (.ireturn, 1) := by decide +kernel
theorem dX7_sum_0 : decode cX7_sum 0 = .ok (.lconst 0, 1) := by decide +kernel
theorem dX7_sum_1 : decode cX7_sum 1 = .ok (.lstore_n 1, 1) := by decide +kernel
theorem dX7_sum_2 : decode cX7_sum 2 = .ok (.iconst 0, 1) := by decide +kernel
theorem dX7_sum_3 : decode cX7_sum 3 = .ok (.istore_n 3, 1) := by decide +kernel
theorem dX7_sum_4 : decode cX7_sum 4 = .ok (.iload_n 3, 1) := by decide +kernel
theorem dX7_sum_5 : decode cX7_sum 5 = .ok (.aload_n 0, 1) := by decide +kernel
theorem dX7_sum_6 : decode cX7_sum 6 = .ok (.getfield 195, 3) := by decide +kernel
theorem dX7_sum_9 : decode cX7_sum 9 = .ok (.if_icmp .ge 19, 3) := by decide +kernel
theorem dX7_sum_12 : decode cX7_sum 12 = .ok (.lload_n 1, 1) := by decide +kernel
theorem dX7_sum_13 : decode cX7_sum 13 = .ok (.aload_n 0, 1) := by decide +kernel
theorem dX7_sum_14 : decode cX7_sum 14 = .ok (.getfield 56, 3) := by decide +kernel
theorem dX7_sum_17 : decode cX7_sum 17 = .ok (.iload_n 3, 1) := by decide +kernel
theorem dX7_sum_18 : decode cX7_sum 18 = .ok (.iaload, 1) := by decide +kernel
theorem dX7_sum_19 : decode cX7_sum 19 = .ok (.i2l, 1) := by decide +kernel
theorem dX7_sum_20 : decode cX7_sum 20 = .ok (.ladd, 1) := by decide +kernel
theorem dX7_sum_21 : decode cX7_sum 21 = .ok (.lstore_n 1, 1) := by decide +kernel
theorem dX7_sum_22 : decode cX7_sum 22 = .ok (.iinc 3 1, 3) := by decide +kernel
theorem dX7_sum_25 : decode cX7_sum 25 = .ok (.goto (-21), 3) := by decide +kernel
theorem dX7_sum_28 : decode cX7_sum 28 = .ok (.lload_n 1, 1) := by decide +kernel
theorem dX7_sum_29 : decode cX7_sum 29 = .ok (.lreturn, 1) := by decide +kernel
theorem dX7_packSize_0 : decode cX7_packSize 0 = .ok (.aload_n 0, 1) := by decide +kernel
theorem dX7_packSize_1 : decode cX7_packSize 1 = .ok (.invokevirtual 204, 3) := by decide +kernel
theorem dX7_packSize_4 : decode cX7_packSize 4 = .ok (.aload_n 0, 1) := by decide +kernel
theorem dX7_packSize_5 : decode cX7_packSize 5 = .ok (.invokevirtual 207, 3) := by decide +kernel
theorem dX7_packSize_8 : decode cX7_packSize 8 = .ok (.lreturn, 1) := by decide +kernel
theorem dX7_packShare_0 : decode cX7_packShare 0 = .ok (.aload_n 0, 1) := by decide +kernel
theorem dX7_packShare_1 : decode cX7_packShare 1 = .ok (.invokevirtual 204, 3) := by decide +kernel
theorem dX7_packShare_4 : decode cX7_packShare 4 = .ok (.aload_n 0, 1) := by decide +kernel
theorem dX7_packShare_5 : decode cX7_packShare 5 = .ok (.getfield 195, 3) := by decide +kernel
theorem dX7_packShare_8 : decode cX7_packShare 8 = .ok (.ifCond .ne 11, 3) := by decide +kernel
theorem dX7_packShare_11 : decode cX7_packShare 11 = .ok (.aload_n 0, 1) := by decide +kernel
theorem dX7_packShare_12 : decode cX7_packShare 12 = .ok (.iconst 1, 1) := by decide +kernel
theorem dX7_packShare_13 : decode cX7_packShare 13 = .ok (.invokevirtual 91, 3) := by decide +kernel
theorem dX7_packShare_16 : decode cX7_packShare 16 = .ok (.pop, 1) := by decide +kernel
theorem dX7_packShare_17 : decode cX7_packShare 17 = .ok (.fconst 0, 1) := by decide +kernel
theorem dX7_packShare_18 : decode cX7_packShare 18 = .ok (.freturn, 1) := by decide +kernel
theorem dX7_packShare_19 : decode cX7_packShare 19 = .ok (.aload_n 0, 1) := by decide +kernel
theorem dX7_packShare_20 : decode cX7_packShare 20 = .ok (.invokevirtual 207, 3) := by decide +kernel
theorem dX7_packShare_23 : decode cX7_packShare 23 = .ok (.l2f, 1) := by decide +kernel
theorem dX7_packShare_24 : decode cX7_packShare 24 = .ok (.iconst 4, 1) := by decide +kernel
theorem dX7_packShare_25 : decode cX7_packShare 25 = .ok (.aload_n 0, 1) := by decide +kernel
theorem dX7_packShare_26 : decode cX7_packShare 26 = .ok (.getfield 195, 3) := by decide +kernel
theorem dX7_packShare_29 : decode cX7_packShare 29 = .ok (.imul, 1) := by decide +kernel
theorem dX7_packShare_30 : decode cX7_packShare 30 = .ok (.i2f, 1) := by decide +kernel
theorem dX7_packShare_31 : decode cX7_packShare 31 = .ok (.fdiv, 1) := by decide +kernel
theorem dX7_packShare_32 : decode cX7_packShare 32 = .ok (.freturn, 1) := by decide +kernel
theorem dX7_meanFiles_0 : decode cX7_meanFiles 0 = .ok (.aload_n 0, 1) := by decide +kernel
theorem dX7_meanFiles_1 : decode cX7_meanFiles 1 = .ok (.iconst 0, 1) := by decide +kernel
theorem dX7_meanFiles_2 : decode cX7_meanFiles 2 = .ok (.putfield 77, 3) := by decide +kernel
theorem dX7_meanFiles_5 : decode cX7_meanFiles 5 = .ok (.iconst 0, 1) := by decide +kernel
theorem dX7_meanFiles_6 : decode cX7_meanFiles 6 = .ok (.istore_n 1, 1) := by decide +kernel
theorem dX7_meanFiles_7 : decode cX7_meanFiles 7 = .ok (.iconst 0, 1) := by decide +kernel
theorem dX7_meanFiles_8 : decode cX7_meanFiles 8 = .ok (.istore_n 2, 1) := by decide +kernel
theorem dX7_meanFiles_9 : decode cX7_meanFiles 9 = .ok (.iload_n 2, 1) := by decide +kernel
theorem dX7_meanFiles_10 : decode cX7_meanFiles 10 = .ok (.aload_n 0, 1) := by decide +kernel
theorem dX7_meanFiles_11 : decode cX7_meanFiles 11 = .ok (.getfield 21, 3) := by decide +kernel
theorem dX7_meanFiles_14 : decode cX7_meanFiles 14 = .ok (.if_icmp .ge 43, 3) := by decide +kernel
theorem dX7_meanFiles_17 : decode cX7_meanFiles 17 = .ok (.iconst 0, 1) := by decide +kernel
theorem dX7_meanFiles_18 : decode cX7_meanFiles 18 = .ok (.istore_n 3, 1) := by decide +kernel
theorem dX7_meanFiles_19 : decode cX7_meanFiles 19 = .ok (.iload_n 3, 1) := by decide +kernel
theorem dX7_meanFiles_20 : decode cX7_meanFiles 20 = .ok (.bipush 8, 2) := by decide +kernel
theorem dX7_meanFiles_22 : decode cX7_meanFiles 22 = .ok (.if_icmp .ge 29, 3) := by decide +kernel
theorem dX7_meanFiles_25 : decode cX7_meanFiles 25 = .ok (.iload_n 1, 1) := by decide +kernel
theorem dX7_meanFiles_26 : decode cX7_meanFiles 26 = .ok (.aload_n 0, 1) := by decide +kernel
theorem dX7_meanFiles_27 : decode cX7_meanFiles 27 = .ok (.getfield 11, 3) := by decide +kernel
theorem dX7_meanFiles_30 : decode cX7_meanFiles 30 = .ok (.iload_n 2, 1) := by decide +kernel
theorem dX7_meanFiles_31 : decode cX7_meanFiles 31 = .ok (.aaload, 1) := by decide +kernel
theorem dX7_meanFiles_32 : decode cX7_meanFiles 32 = .ok (.iload_n 3, 1) := by decide +kernel
theorem dX7_meanFiles_33 : decode cX7_meanFiles 33 = .ok (.iaload, 1) := by decide +kernel
theorem dX7_meanFiles_34 : decode cX7_meanFiles 34 = .ok (.iconst (-1), 1) := by decide +kernel
theorem dX7_meanFiles_35 : decode cX7_meanFiles 35 = .ok (.if_icmp .ne 7, 3) := by decide +kernel
theorem dX7_meanFiles_38 : decode cX7_meanFiles 38 = .ok (.iconst 0, 1) := by decide +kernel
theorem dX7_meanFiles_39 : decode cX7_meanFiles 39 = .ok (.goto 4, 3) := by decide +kernel
theorem dX7_meanFiles_42 : decode cX7_meanFiles 42 = .ok (.iconst 1, 1) := by decide +kernel
theorem dX7_meanFiles_43 : decode cX7_meanFiles 43 = .ok (.iadd, 1) := by decide +kernel
theorem dX7_meanFiles_44 : decode cX7_meanFiles 44 = .ok (.istore_n 1, 1) := by decide +kernel
theorem dX7_meanFiles_45 : decode cX7_meanFiles 45 = .ok (.iinc 3 1, 3) := by decide +kernel
theorem dX7_meanFiles_48 : decode cX7_meanFiles 48 = .ok (.goto (-29), 3) := by decide +kernel
theorem dX7_meanFiles_51 : decode cX7_meanFiles 51 = .ok (.iinc 2 1, 3) := by decide +kernel
theorem dX7_meanFiles_54 : decode cX7_meanFiles 54 = .ok (.goto (-45), 3) := by decide +kernel
theorem dX7_meanFiles_57 : decode cX7_meanFiles 57 = .ok (.iload_n 1, 1) := by decide +kernel
theorem dX7_meanFiles_58 : decode cX7_meanFiles 58 = .ok (.i2d, 1) := by decide +kernel
theorem dX7_meanFiles_59 : decode cX7_meanFiles 59 = .ok (.aload_n 0, 1) := by decide +kernel
theorem dX7_meanFiles_60 : decode cX7_meanFiles 60 = .ok (.getfield 21, 3) := by decide +kernel
theorem dX7_meanFiles_63 : decode cX7_meanFiles 63 = .ok (.i2d, 1) := by decide +kernel
theorem dX7_meanFiles_64 : decode cX7_meanFiles 64 = .ok (.ddiv, 1) := by decide +kernel
theorem dX7_meanFiles_65 : decode cX7_meanFiles 65 = .ok (.dreturn, 1) := by decide +kernel
end
section
theorem dX0_init_0 : decode cX0_init 0 = .ok (.aload_n 0, 1) := by decide +kernel
theorem dX0_init_1 : decode cX0_init 1 = .ok (.invokespecial 3, 3) := by decide +kernel
theorem dX0_init_4 : decode cX0_init 4 = .ok (.aload_n 0, 1) := by decide +kernel
theorem dX0_init_5 : decode cX0_init 5 = .ok (.new 9, 3) := by decide +kernel
theorem dX0_init_8 : decode cX0_init 8 = .ok (.dup, 1) := by decide +kernel
theorem dX0_init_9 : decode cX0_init 9 = .ok (.invokespecial 11, 3) := by decide +kernel
theorem dX0_init_12 : decode cX0_init 12 = .ok (.putfield 12, 3) := by decide +kernel
theorem dX0_init_15 : decode cX0_init 15 = .ok (.aload_n 0, 1) := by decide +kernel
theorem dX0_init_16 : decode cX0_init 16 = .ok (.new 9, 3) := by decide +kernel
theorem dX0_init_19 : decode cX0_init 19 = .ok (.dup, 1) := by decide +kernel
theorem dX0_init_20 : decode cX0_init 20 = .ok (.invokespecial 11, 3) := by decide +kernel
theorem dX0_init_23 : decode cX0_init 23 = .ok (.putfield 18, 3) := by decide +kernel
theorem dX0_init_26 : decode cX0_init 26 = .ok (.aload_n 0, 1) := by decide +kernel
theorem dX0_init_27 : decode cX0_init 27 = .ok (.bipush 8, 2) := by decide +kernel
theorem dX0_init_29 : decode cX0_init 29 = .ok (.newarray .int, 2) := by decide +kernel
theorem dX0_init_31 : decode cX0_init 31 = .ok (.putfield 21, 3) := by decide +kernel
theorem dX0_init_34 : decode cX0_init 34 = .ok (.aload_n 0, 1) := by decide +kernel
theorem dX0_init_35 : decode cX0_init 35 = .ok (.bipush 8, 2) := by decide +kernel
theorem dX0_init_37 : decode cX0_init 37 = .ok (.newarray .int, 2) := by decide +kernel
theorem dX0_init_39 : decode cX0_init 39 = .ok (.putfield 25, 3) := by decide +kernel
theorem dX0_init_42 : decode cX0_init 42 = .ok (.return_, 1) := by decide +kernel
theorem dX0_run_0 : decode cX0_run 0 = .ok (.aload_n 0, 1) := by decide +kernel
theorem dX0_run_1 : decode cX0_run 1 = .ok (.getfield 12, 3) := by decide +kernel
theorem dX0_run_4 : decode cX0_run 4 = .ok (.aload_n 1, 1) := by decide +kernel
theorem dX0_run_5 : decode cX0_run 5 = .ok (.invokevirtual 28, 3) := by decide +kernel
theorem dX0_run_8 : decode cX0_run 8 = .ok (.aload_n 0, 1) := by decide +kernel
theorem dX0_run_9 : decode cX0_run 9 = .ok (.getfield 18, 3) := by decide +kernel
theorem dX0_run_12 : decode cX0_run 12 = .ok (.aload_n 2, 1) := by decide +kernel
theorem dX0_run_13 : decode cX0_run 13 = .ok (.invokevirtual 28, 3) := by decide +kernel
theorem dX0_run_16 : decode cX0_run 16 = .ok (.iconst 0, 1) := by decide +kernel
theorem dX0_run_17 : decode cX0_run 17 = .ok (.istore_n 3, 1) := by decide +kernel
theorem dX0_run_18 : decode cX0_run 18 = .ok (.iload_n 3, 1) := by decide +kernel
theorem dX0_run_19 : decode cX0_run 19 = .ok (.bipush 8, 2) := by decide +kernel
theorem dX0_run_21 : decode cX0_run 21 = .ok (.if_icmp .ge 23, 3) := by decide +kernel
theorem dX0_run_24 : decode cX0_run 24 = .ok (.aload_n 0, 1) := by decide +kernel
theorem dX0_run_25 : decode cX0_run 25 = .ok (.getfield 21, 3) := by decide +kernel
theorem dX0_run_28 : decode cX0_run 28 = .ok (.iload_n 3, 1) := by decide +kernel
theorem dX0_run_29 : decode cX0_run 29 = .ok (.iconst (-1), 1) := by decide +kernel
theorem dX0_run_30 : decode cX0_run 30 = .ok (.iastore, 1) := by decide +kernel
theorem dX0_run_31 : decode cX0_run 31 = .ok (.aload_n 0, 1) := by decide +kernel
theorem dX0_run_32 : decode cX0_run 32 = .ok (.getfield 25, 3) := by decide +kernel
theorem dX0_run_35 : decode cX0_run 35 = .ok (.iload_n 3, 1) := by decide +kernel
theorem dX0_run_36 : decode cX0_run 36 = .ok (.iconst (-1), 1) := by decide +kernel
theorem dX0_run_37 : decode cX0_run 37 = .ok (.iastore, 1) := by decide +kernel
theorem dX0_run_38 : decode cX0_run 38 = .ok (.iinc 3 1, 3) := by decide +kernel
theorem dX0_run_41 : decode cX0_run 41 = .ok (.goto (-23), 3) := by decide +kernel
theorem dX0_run_44 : decode cX0_run 44 = .ok (.iconst 4, 1) := by decide +kernel
theorem dX0_run_45 : decode cX0_run 45 = .ok (.istore_n 3, 1) := by decide +kernel
theorem dX0_run_46 : decode cX0_run 46 = .ok (.iload_n 3, 1) := by decide +kernel
theorem dX0_run_47 : decode cX0_run 47 = .ok (.iconst 3, 1) := by decide +kernel
theorem dX0_run_48 : decode cX0_run 48 = .ok (.if_icmp .lt 14, 3) := by decide +kernel
theorem dX0_run_51 : decode cX0_run 51 = .ok (.aload_n 0, 1) := by decide +kernel
theorem dX0_run_52 : decode cX0_run 52 = .ok (.iload_n 3, 1) := by decide +kernel
theorem dX0_run_53 : decode cX0_run 53 = .ok (.invokevirtual 32, 3) := by decide +kernel
theorem dX0_run_56 : decode cX0_run 56 = .ok (.iinc 3 (-1), 3) := by decide +kernel
theorem dX0_run_59 : decode cX0_run 59 = .ok (.goto (-13), 3) := by decide +kernel
theorem dX0_run_62 : decode cX0_run 62 = .ok (.return_, 1) := by decide +kernel
theorem dX0_takeMoves_0 : decode cX0_takeMoves 0 = .ok (.iconst 0, 1) := by decide +kernel
theorem dX0_takeMoves_1 : decode cX0_takeMoves 1 = .ok (.istore_n 2, 1) := by decide +kernel
theorem dX0_takeMoves_2 : decode cX0_takeMoves 2 = .ok (.iload_n 2, 1) := by decide +kernel
theorem dX0_takeMoves_3 : decode cX0_takeMoves 3 = .ok (.bipush 8, 2) := by decide +kernel
theorem dX0_takeMoves_5 : decode cX0_takeMoves 5 = .ok (.if_icmp .ge 76, 3) := by decide +kernel
theorem dX0_takeMoves_8 : decode cX0_takeMoves 8 = .ok (.iconst 0, 1) := by decide +kernel
theorem dX0_takeMoves_9 : decode cX0_takeMoves 9 = .ok (.istore_n 3, 1) := by decide +kernel
theorem dX0_takeMoves_10 : decode cX0_takeMoves 10 = .ok (.iload_n 3, 1) := by decide +kernel
theorem dX0_takeMoves_11 : decode cX0_takeMoves 11 = .ok (.bipush 8, 2) := by decide +kernel
theorem dX0_takeMoves_13 : decode cX0_takeMoves 13 = .ok (.if_icmp .ge 62, 3) := by decide +kernel
theorem dX0_takeMoves_16 : decode cX0_takeMoves 16 = .ok (.aload_n 0, 1) := by decide +kernel
theorem dX0_takeMoves_17 : decode cX0_takeMoves 17 = .ok (.iload_n 2, 1) := by decide +kernel
theorem dX0_takeMoves_18 : decode cX0_takeMoves 18 = .ok (.invokevirtual 36, 3) := by decide +kernel
theorem dX0_takeMoves_21 : decode cX0_takeMoves 21 = .ok (.ifCond .eq 54, 3) := by decide +kernel
theorem dX0_takeMoves_24 : decode cX0_takeMoves 24 = .ok (.aload_n 0, 1) := by decide +kernel
theorem dX0_takeMoves_25 : decode cX0_takeMoves 25 = .ok (.iload_n 3, 1) := by decide +kernel
theorem dX0_takeMoves_26 : decode cX0_takeMoves 26 = .ok (.invokevirtual 40, 3) := by decide +kernel
theorem dX0_takeMoves_29 : decode cX0_takeMoves 29 = .ok (.ifCond .eq 40, 3) := by decide +kernel
theorem dX0_takeMoves_32 : decode cX0_takeMoves 32 = .ok (.aload_n 0, 1) := by decide +kernel
theorem dX0_takeMoves_33 : decode cX0_takeMoves 33 = .ok (.getfield 12, 3) := by decide +kernel
theorem dX0_takeMoves_36 : decode cX0_takeMoves 36 = .ok (.iload_n 2, 1) := by decide +kernel
theorem dX0_takeMoves_37 : decode cX0_takeMoves 37 = .ok (.invokevirtual 43, 3) := by decide +kernel
theorem dX0_takeMoves_40 : decode cX0_takeMoves 40 = .ok (.aload_n 0, 1) := by decide +kernel
theorem dX0_takeMoves_41 : decode cX0_takeMoves 41 = .ok (.getfield 18, 3) := by decide +kernel
theorem dX0_takeMoves_44 : decode cX0_takeMoves 44 = .ok (.iload_n 3, 1) := by decide +kernel
theorem dX0_takeMoves_45 : decode cX0_takeMoves 45 = .ok (.invokevirtual 43, 3) := by decide +kernel
theorem dX0_takeMoves_48 : decode cX0_takeMoves 48 = .ok (.invokestatic 47, 3) := by decide +kernel
theorem dX0_takeMoves_51 : decode cX0_takeMoves 51 = .ok (.iload_n 1, 1) := by decide +kernel
theorem dX0_takeMoves_52 : decode cX0_takeMoves 52 = .ok (.if_icmp .ne 17, 3) := by decide +kernel
theorem dX0_takeMoves_55 : decode cX0_takeMoves 55 = .ok (.aload_n 0, 1) := by decide +kernel
theorem dX0_takeMoves_56 : decode cX0_takeMoves 56 = .ok (.getfield 21, 3) := by decide +kernel
theorem dX0_takeMoves_59 : decode cX0_takeMoves 59 = .ok (.iload_n 2, 1) := by decide +kernel
theorem dX0_takeMoves_60 : decode cX0_takeMoves 60 = .ok (.iload_n 3, 1) := by decide +kernel
theorem dX0_takeMoves_61 : decode cX0_takeMoves 61 = .ok (.iastore, 1) := by decide +kernel
theorem dX0_takeMoves_62 : decode cX0_takeMoves 62 = .ok (.aload_n 0, 1) := by decide +kernel
theorem dX0_takeMoves_63 : decode cX0_takeMoves 63 = .ok (.getfield 25, 3) := by decide +kernel
theorem dX0_takeMoves_66 : decode cX0_takeMoves 66 = .ok (.iload_n 3, 1) := by decide +kernel
theorem dX0_takeMoves_67 : decode cX0_takeMoves 67 = .ok (.iload_n 2, 1) := by decide +kernel
theorem dX0_takeMoves_68 : decode cX0_takeMoves 68 = .ok (.iastore, 1) := by decide +kernel
theorem dX0_takeMoves_69 : decode cX0_takeMoves 69 = .ok (.iinc 3 1, 3) := by decide +kernel
theorem dX0_takeMoves_72 : decode cX0_takeMoves 72 = .ok (.goto (-62), 3) := by decide +kernel
theorem dX0_takeMoves_75 : decode cX0_takeMoves 75 = .ok (.iinc 2 1, 3) := by decide +kernel
theorem dX0_takeMoves_78 : decode cX0_takeMoves 78 = .ok (.goto (-76), 3) := by decide +kernel
theorem dX0_takeMoves_81 : decode cX0_takeMoves 81 = .ok (.return_, 1) := by decide +kernel
theorem dX0_isFreeToLeave_0 : decode cX0_isFreeToLeave 0 = .ok (.aload_n 0, 1) := by decide +kernel
theorem dX0_isFreeToLeave_1 : decode cX0_isFreeToLeave 1 = .ok (.getfield 12, 3) := by decide +kernel
theorem dX0_isFreeToLeave_4 : decode cX0_isFreeToLeave 4 = .ok (.iload_n 1, 1) := by decide +kernel
theorem dX0_isFreeToLeave_5 : decode cX0_isFreeToLeave 5 = .ok (.invokevirtual 43, 3) := by decide +kernel
theorem dX0_isFreeToLeave_8 : decode cX0_isFreeToLeave 8 = .ok (.iconst (-1), 1) := by decide +kernel
theorem dX0_isFreeToLeave_9 : decode cX0_isFreeToLeave 9 = .ok (.if_icmp .eq 28, 3) := by decide +kernel
theorem dX0_isFreeToLeave_12 : decode cX0_isFreeToLeave 12 = .ok (.aload_n 0, 1) := by decide +kernel
theorem dX0_isFreeToLeave_13 : decode cX0_isFreeToLeave 13 = .ok (.getfield 18, 3) := by decide +kernel
theorem dX0_isFreeToLeave_16 : decode cX0_isFreeToLeave 16 = .ok (.iload_n 1, 1) := by decide +kernel
theorem dX0_isFreeToLeave_17 : decode cX0_isFreeToLeave 17 = .ok (.invokevirtual 43, 3) := by decide +kernel
theorem dX0_isFreeToLeave_20 : decode cX0_isFreeToLeave 20 = .ok (.iconst (-1), 1) := by decide +kernel
theorem dX0_isFreeToLeave_21 : decode cX0_isFreeToLeave 21 = .ok (.if_icmp .ne 16, 3) := by decide +kernel
theorem dX0_isFreeToLeave_24 : decode cX0_isFreeToLeave 24 = .ok (.aload_n 0, 1) := by decide +kernel
theorem dX0_isFreeToLeave_25 : decode cX0_isFreeToLeave 25 = .ok (.iload_n 1, 1) := by decide +kernel
theorem dX0_isFreeToLeave_26 : decode cX0_isFreeToLeave 26 = .ok (.invokevirtual 53, 3) := by decide +kernel
theorem dX0_isFreeToLeave_29 : decode cX0_isFreeToLeave 29 = .ok (.iconst (-1), 1) := by decide +kernel
theorem dX0_isFreeToLeave_30 : decode cX0_isFreeToLeave 30 = .ok (.if_icmp .ne 7, 3) := by decide +kernel
theorem dX0_isFreeToLeave_33 : decode cX0_isFreeToLeave 33 = .ok (.iconst 1, 1) := by decide +kernel
theorem dX0_isFreeToLeave_34 : decode cX0_isFreeToLeave 34 = .ok (.goto 4, 3) := by decide +kernel
theorem dX0_isFreeToLeave_37 : decode cX0_isFreeToLeave 37 = .ok (.iconst 0, 1) := by decide +kernel
theorem dX0_isFreeToLeave_38 : decode cX0_isFreeToLeave 38 = .ok (.ireturn, 1) := by decide +kernel
theorem dX0_isFreeToCome_0 : decode cX0_isFreeToCome 0 = .ok (.aload_n 0, 1) := by decide +kernel
theorem dX0_isFreeToCome_1 : decode cX0_isFreeToCome 1 = .ok (.getfield 12, 3) := by decide +kernel
theorem dX0_isFreeToCome_4 : decode cX0_isFreeToCome 4 = .ok (.iload_n 1, 1) := by decide +kernel
theorem dX0_isFreeToCome_5 : decode cX0_isFreeToCome 5 = .ok (.invokevirtual 43, 3) := by decide +kernel
theorem dX0_isFreeToCome_8 : decode cX0_isFreeToCome 8 = .ok (.iconst (-1), 1) := by decide +kernel
theorem dX0_isFreeToCome_9 : decode cX0_isFreeToCome 9 = .ok (.if_icmp .ne 28, 3) := by decide +kernel
theorem dX0_isFreeToCome_12 : decode cX0_isFreeToCome 12 = .ok (.aload_n 0, 1) := by decide +kernel
theorem dX0_isFreeToCome_13 : decode cX0_isFreeToCome 13 = .ok (.getfield 18, 3) := by decide +kernel
theorem dX0_isFreeToCome_16 : decode cX0_isFreeToCome 16 = .ok (.iload_n 1, 1) := by decide +kernel
theorem dX0_isFreeToCome_17 : decode cX0_isFreeToCome 17 = .ok (.invokevirtual 43, 3) := by decide +kernel
theorem dX0_isFreeToCome_20 : decode cX0_isFreeToCome 20 = .ok (.iconst (-1), 1) := by decide +kernel
theorem dX0_isFreeToCome_21 : decode cX0_isFreeToCome 21 = .ok (.if_icmp .eq 16, 3) := by decide +kernel
theorem dX0_isFreeToCome_24 : decode cX0_isFreeToCome 24 = .ok (.aload_n 0, 1) := by decide +kernel
theorem dX0_isFreeToCome_25 : decode cX0_isFreeToCome 25 = .ok (.iload_n 1, 1) := by decide +kernel
theorem dX0_isFreeToCome_26 : decode cX0_isFreeToCome 26 = .ok (.invokevirtual 56, 3) := by decide +kernel
theorem dX0_isFreeToCome_29 : decode cX0_isFreeToCome 29 = .ok (.iconst (-1), 1) := by decide +kernel
theorem dX0_isFreeToCome_30 : decode cX0_isFreeToCome 30 = .ok (.if_icmp .ne 7, 3) := by decide +kernel
theorem dX0_isFreeToCome_33 : decode cX0_isFreeToCome 33 = .ok (.iconst 1, 1) := by decide +kernel
theorem dX0_isFreeToCome_34 : decode cX0_isFreeToCome 34 = .ok (.goto 4, 3) := by decide +kernel
theorem dX0_isFreeToCome_37 : decode cX0_isFreeToCome 37 = .ok (.iconst 0, 1) := by decide +kernel
theorem dX0_isFreeToCome_38 : decode cX0_isFreeToCome 38 = .ok (.ireturn, 1) := by decide +kernel
theorem dX0_target_0 : decode cX0_target 0 = .ok (.iload_n 1, 1) := by decide +kernel
theorem dX0_target_1 : decode cX0_target 1 = .ok (.ifCond .lt 21, 3) := by decide +kernel
theorem dX0_target_4 : decode cX0_target 4 = .ok (.iload_n 1, 1) := by decide +kernel
theorem dX0_target_5 : decode cX0_target 5 = .ok (.aload_n 0, 1) := by decide +kernel
theorem dX0_target_6 : decode cX0_target 6 = .ok (.getfield 21, 3) := by decide +kernel
theorem dX0_target_9 : decode cX0_target 9 = .ok (.arraylength, 1) := by decide +kernel
theorem dX0_target_10 : decode cX0_target 10 = .ok (.if_icmp .ge 12, 3) := by decide +kernel
theorem dX0_target_13 : decode cX0_target 13 = .ok (.aload_n 0, 1) := by decide +kernel
theorem dX0_target_14 : decode cX0_target 14 = .ok (.getfield 21, 3) := by decide +kernel
theorem dX0_target_17 : decode cX0_target 17 = .ok (.iload_n 1, 1) := by decide +kernel
theorem dX0_target_18 : decode cX0_target 18 = .ok (.iaload, 1) := by decide +kernel
theorem dX0_target_19 : decode cX0_target 19 = .ok (.goto 4, 3) := by decide +kernel
theorem dX0_target_22 : decode cX0_target 22 = .ok (.iconst (-1), 1) := by decide +kernel
theorem dX0_target_23 : decode cX0_target 23 = .ok (.ireturn, 1) := by decide +kernel
theorem dX0_source_0 : decode cX0_source 0 = .ok (.iload_n 1, 1) := by decide +kernel
theorem dX0_source_1 : decode cX0_source 1 = .ok (.ifCond .lt 21, 3) := by decide +kernel
theorem dX0_source_4 : decode cX0_source 4 = .ok (.iload_n 1, 1) := by decide +kernel
theorem dX0_source_5 : decode cX0_source 5 = .ok (.aload_n 0, 1) := by decide +kernel
theorem dX0_source_6 : decode cX0_source 6 = .ok (.getfield 25, 3) := by decide +kernel
theorem dX0_source_9 : decode cX0_source 9 = .ok (.arraylength, 1) := by decide +kernel
theorem dX0_source_10 : decode cX0_source 10 = .ok (.if_icmp .ge 12, 3) := by decide +kernel
theorem dX0_source_13 : decode cX0_source 13 = .ok (.aload_n 0, 1) := by decide +kernel
theorem dX0_source_14 : decode cX0_source 14 = .ok (.getfield 25, 3) := by decide +kernel
theorem dX0_source_17 : decode cX0_source 17 = .ok (.iload_n 1, 1) := by decide +kernel
theorem dX0_source_18 : decode cX0_source 18 = .ok (.iaload, 1) := by decide +kernel
theorem dX0_source_19 : decode cX0_source 19 = .ok (.goto 4, 3) := by decide +kernel
theorem dX0_source_22 : decode cX0_source 22 = .ok (.iconst (-1), 1) := by decide +kernel
theorem dX0_source_23 : decode cX0_source 23 = .ok (.ireturn, 1) := by decide +kernel
theorem dX0_contentBefore_0 : decode cX0_contentBefore 0 = .ok (.aload_n 0, 1) := by decide +kernel
theorem dX0_contentBefore_1 : decode cX0_contentBefore 1 = .ok (.getfield 12, 3) := by decide +kernel
theorem dX0_contentBefore_4 : decode cX0_contentBefore 4 = .ok (.iload_n 1, 1) := by decide +kernel
theorem dX0_contentBefore_5 : decode cX0_contentBefore 5 = .ok (.invokevirtual 43, 3) := by decide +kernel
theorem dX0_contentBefore_8 : decode cX0_contentBefore 8 = .ok (.ireturn, 1) := by decide +kernel
theorem dX0_contentAfter_0 : decode cX0_contentAfter 0 = .ok (.aload_n 0, 1) := by decide +kernel
theorem dX0_contentAfter_1 : decode cX0_contentAfter 1 = .ok (.getfield 18, 3) := by decide +kernel
theorem dX0_contentAfter_4 : decode cX0_contentAfter 4 = .ok (.iload_n 1, 1) := by decide +kernel
theorem dX0_contentAfter_5 : decode cX0_contentAfter 5 = .ok (.invokevirtual 43, 3) := by decide +kernel
theorem dX0_contentAfter_8 : decode cX0_contentAfter 8 = .ok (.ireturn, 1) := by decide +kernel
theorem dX0_placeOf_0 : decode cX0_placeOf 0 = .ok (.aload_n 0, 1) := by decide +kernel
theorem dX0_placeOf_1 : decode cX0_placeOf 1 = .ok (.getfield 18, 3) := by decide +kernel
theorem dX0_placeOf_4 : decode cX0_placeOf 4 = .ok (.iload_n 1, 1) := by decide +kernel
theorem dX0_placeOf_5 : decode cX0_placeOf 5 = .ok (.invokevirtual 43, 3) := by decide +kernel
theorem dX0_placeOf_8 : decode cX0_placeOf 8 = .ok (.iconst (-1), 1) := by decide +kernel
theorem dX0_placeOf_9 : decode cX0_placeOf 9 = .ok (.if_icmp .eq 7, 3) := by decide +kernel
theorem dX0_placeOf_12 : decode cX0_placeOf 12 = .ok (.iload_n 1, 1) := by decide +kernel
theorem dX0_placeOf_13 : decode cX0_placeOf 13 = .ok (.goto 8, 3) := by decide +kernel
theorem dX0_placeOf_16 : decode cX0_placeOf 16 = .ok (.aload_n 0, 1) := by decide +kernel
theorem dX0_placeOf_17 : decode cX0_placeOf 17 = .ok (.iload_n 1, 1) := by decide +kernel
theorem dX0_placeOf_18 : decode cX0_placeOf 18 = .ok (.invokevirtual 53, 3) := by decide +kernel
theorem dX0_placeOf_21 : decode cX0_placeOf 21 = .ok (.ireturn, 1) := by decide +kernel
theorem dX0_isNowhereOrUnchanged_0 : decode cX0_isNowhereOrUnchanged 0 = .ok (.aload_n 0, 1) := by decide +kernel
theorem dX0_isNowhereOrUnchanged_1 : decode cX0_isNowhereOrUnchanged 1 = .ok (.iload_n 1, 1) := by decide +kernel
theorem dX0_isNowhereOrUnchanged_2 : decode cX0_isNowhereOrUnchanged 2 = .ok (.invokevirtual 59, 3) := by decide +kernel
theorem dX0_isNowhereOrUnchanged_5 : decode cX0_isNowhereOrUnchanged 5 = .ok (.iconst (-1), 1) := by decide +kernel
theorem dX0_isNowhereOrUnchanged_6 : decode cX0_isNowhereOrUnchanged 6 = .ok (.if_icmp .eq 22, 3) := by decide +kernel
theorem dX0_isNowhereOrUnchanged_9 : decode cX0_isNowhereOrUnchanged 9 = .ok (.aload_n 0, 1) := by decide +kernel
theorem dX0_isNowhereOrUnchanged_10 : decode cX0_isNowhereOrUnchanged 10 = .ok (.getfield 18, 3) := by decide +kernel
theorem dX0_isNowhereOrUnchanged_13 : decode cX0_isNowhereOrUnchanged 13 = .ok (.iload_n 1, 1) := by decide +kernel
theorem dX0_isNowhereOrUnchanged_14 : decode cX0_isNowhereOrUnchanged 14 = .ok (.invokevirtual 43, 3) := by decide +kernel
theorem dX0_isNowhereOrUnchanged_17 : decode cX0_isNowhereOrUnchanged 17 = .ok (.aload_n 0, 1) := by decide +kernel
theorem dX0_isNowhereOrUnchanged_18 : decode cX0_isNowhereOrUnchanged 18 = .ok (.getfield 12, 3) := by decide +kernel
theorem dX0_isNowhereOrUnchanged_21 : decode cX0_isNowhereOrUnchanged 21 = .ok (.iload_n 1, 1) := by decide +kernel
theorem dX0_isNowhereOrUnchanged_22 : decode cX0_isNowhereOrUnchanged 22 = .ok (.invokevirtual 43, 3) := by decide +kernel
theorem dX0_isNowhereOrUnchanged_25 : decode cX0_isNowhereOrUnchanged 25 = .ok (.if_icmp .ne 7, 3) := by decide +kernel
theorem dX0_isNowhereOrUnchanged_28 : decode cX0_isNowhereOrUnchanged 28 = .ok (.iconst 1, 1) := by decide +kernel
theorem dX0_isNowhereOrUnchanged_29 : decode cX0_isNowhereOrUnchanged 29 = .ok (.goto 4, 3) := by decide +kernel
theorem dX0_isNowhereOrUnchanged_32 : decode cX0_isNowhereOrUnchanged 32 = .ok (.iconst 0, 1) := by decide +kernel
theorem dX0_isNowhereOrUnchanged_33 : decode cX0_isNowhereOrUnchanged 33 = .ok (.ireturn, 1) := by decide +kernel
theorem dX0_newContentAt_0 : decode cX0_newContentAt 0 = .ok (.aload_n 0, 1) := by decide +kernel
theorem dX0_newContentAt_1 : decode cX0_newContentAt 1 = .ok (.iload_n 1, 1) := by decide +kernel
theorem dX0_newContentAt_2 : decode cX0_newContentAt 2 = .ok (.invokevirtual 40, 3) := by decide +kernel
theorem dX0_newContentAt_5 : decode cX0_newContentAt 5 = .ok (.ifCond .eq 14, 3) := by decide +kernel
theorem dX0_newContentAt_8 : decode cX0_newContentAt 8 = .ok (.aload_n 0, 1) := by decide +kernel
theorem dX0_newContentAt_9 : decode cX0_newContentAt 9 = .ok (.getfield 18, 3) := by decide +kernel
theorem dX0_newContentAt_12 : decode cX0_newContentAt 12 = .ok (.iload_n 1, 1) := by decide +kernel
theorem dX0_newContentAt_13 : decode cX0_newContentAt 13 = .ok (.invokevirtual 43, 3) := by decide +kernel
theorem dX0_newContentAt_16 : decode cX0_newContentAt 16 = .ok (.goto 4, 3) := by decide +kernel
theorem dX0_newContentAt_19 : decode cX0_newContentAt 19 = .ok (.iconst (-1), 1) := by decide +kernel
theorem dX0_newContentAt_20 : decode cX0_newContentAt 20 = .ok (.ireturn, 1) := by decide +kernel
theorem dX1_init_0 : decode cX1_init 0 = .ok (.aload_n 0, 1) := by decide +kernel
theorem dX1_init_1 : decode cX1_init 1 = .ok (.invokespecial 3, 3) := by decide +kernel
theorem dX1_init_4 : decode cX1_init 4 = .ok (.aload_n 0, 1) := by decide +kernel
theorem dX1_init_5 : decode cX1_init 5 = .ok (.bipush 60, 2) := by decide +kernel
theorem dX1_init_7 : decode cX1_init 7 = .ok (.anewarray 9, 3) := by decide +kernel
theorem dX1_init_10 : decode cX1_init 10 = .ok (.putfield 11, 3) := by decide +kernel
theorem dX1_init_13 : decode cX1_init 13 = .ok (.aload_n 0, 1) := by decide +kernel
theorem dX1_init_14 : decode cX1_init 14 = .ok (.new 9, 3) := by decide +kernel
theorem dX1_init_17 : decode cX1_init 17 = .ok (.dup, 1) := by decide +kernel
theorem dX1_init_18 : decode cX1_init 18 = .ok (.invokespecial 17, 3) := by decide +kernel
theorem dX1_init_21 : decode cX1_init 21 = .ok (.putfield 18, 3) := by decide +kernel
theorem dX1_init_24 : decode cX1_init 24 = .ok (.aload_n 0, 1) := by decide +kernel
theorem dX1_init_25 : decode cX1_init 25 = .ok (.bipush 60, 2) := by decide +kernel
theorem dX1_init_27 : decode cX1_init 27 = .ok (.newarray .int, 2) := by decide +kernel
theorem dX1_init_29 : decode cX1_init 29 = .ok (.putfield 22, 3) := by decide +kernel
theorem dX1_init_32 : decode cX1_init 32 = .ok (.aload_n 0, 1) := by decide +kernel
theorem dX1_init_33 : decode cX1_init 33 = .ok (.bipush 60, 2) := by decide +kernel
theorem dX1_init_35 : decode cX1_init 35 = .ok (.newarray .int, 2) := by decide +kernel
theorem dX1_init_37 : decode cX1_init 37 = .ok (.putfield 26, 3) := by decide +kernel
theorem dX1_init_40 : decode cX1_init 40 = .ok (.aload_n 0, 1) := by decide +kernel
theorem dX1_init_41 : decode cX1_init 41 = .ok (.bipush 60, 2) := by decide +kernel
theorem dX1_init_43 : decode cX1_init 43 = .ok (.newarray .int, 2) := by decide +kernel
theorem dX1_init_45 : decode cX1_init 45 = .ok (.putfield 29, 3) := by decide +kernel
theorem dX1_init_48 : decode cX1_init 48 = .ok (.aload_n 0, 1) := by decide +kernel
theorem dX1_init_49 : decode cX1_init 49 = .ok (.bipush 60, 2) := by decide +kernel
theorem dX1_init_51 : decode cX1_init 51 = .ok (.newarray .long, 2) := by decide +kernel
theorem dX1_init_53 : decode cX1_init 53 = .ok (.putfield 32, 3) := by decide +kernel
theorem dX1_init_56 : decode cX1_init 56 = .ok (.aload_n 0, 1) := by decide +kernel
theorem dX1_init_57 : decode cX1_init 57 = .ok (.bipush 60, 2) := by decide +kernel
theorem dX1_init_59 : decode cX1_init 59 = .ok (.newarray .int, 2) := by decide +kernel
theorem dX1_init_61 : decode cX1_init 61 = .ok (.putfield 36, 3) := by decide +kernel
theorem dX1_init_64 : decode cX1_init 64 = .ok (.iconst 0, 1) := by decide +kernel
theorem dX1_init_65 : decode cX1_init 65 = .ok (.istore_n 1, 1) := by decide +kernel
theorem dX1_init_66 : decode cX1_init 66 = .ok (.iload_n 1, 1) := by decide +kernel
theorem dX1_init_67 : decode cX1_init 67 = .ok (.bipush 60, 2) := by decide +kernel
theorem dX1_init_69 : decode cX1_init 69 = .ok (.if_icmp .ge 36, 3) := by decide +kernel
theorem dX1_init_72 : decode cX1_init 72 = .ok (.aload_n 0, 1) := by decide +kernel
theorem dX1_init_73 : decode cX1_init 73 = .ok (.getfield 11, 3) := by decide +kernel
theorem dX1_init_76 : decode cX1_init 76 = .ok (.iload_n 1, 1) := by decide +kernel
theorem dX1_init_77 : decode cX1_init 77 = .ok (.new 9, 3) := by decide +kernel
theorem dX1_init_80 : decode cX1_init 80 = .ok (.dup, 1) := by decide +kernel
theorem dX1_init_81 : decode cX1_init 81 = .ok (.invokespecial 17, 3) := by decide +kernel
theorem dX1_init_84 : decode cX1_init 84 = .ok (.aastore, 1) := by decide +kernel
theorem dX1_init_85 : decode cX1_init 85 = .ok (.aload_n 0, 1) := by decide +kernel
theorem dX1_init_86 : decode cX1_init 86 = .ok (.getfield 22, 3) := by decide +kernel
theorem dX1_init_89 : decode cX1_init 89 = .ok (.iload_n 1, 1) := by decide +kernel
theorem dX1_init_90 : decode cX1_init 90 = .ok (.iconst (-1), 1) := by decide +kernel
theorem dX1_init_91 : decode cX1_init 91 = .ok (.iastore, 1) := by decide +kernel
theorem dX1_init_92 : decode cX1_init 92 = .ok (.aload_n 0, 1) := by decide +kernel
theorem dX1_init_93 : decode cX1_init 93 = .ok (.getfield 26, 3) := by decide +kernel
theorem dX1_init_96 : decode cX1_init 96 = .ok (.iload_n 1, 1) := by decide +kernel
theorem dX1_init_97 : decode cX1_init 97 = .ok (.iconst (-1), 1) := by decide +kernel
theorem dX1_init_98 : decode cX1_init 98 = .ok (.iastore, 1) := by decide +kernel
theorem dX1_init_99 : decode cX1_init 99 = .ok (.iinc 1 1, 3) := by decide +kernel
theorem dX1_init_102 : decode cX1_init 102 = .ok (.goto (-36), 3) := by decide +kernel
theorem dX1_init_105 : decode cX1_init 105 = .ok (.aload_n 0, 1) := by decide +kernel
theorem dX1_init_106 : decode cX1_init 106 = .ok (.getfield 32, 3) := by decide +kernel
theorem dX1_init_109 : decode cX1_init 109 = .ok (.iconst 0, 1) := by decide +kernel
theorem dX1_init_110 : decode cX1_init 110 = .ok (.lconst 1, 1) := by decide +kernel
theorem dX1_init_111 : decode cX1_init 111 = .ok (.lastore, 1) := by decide +kernel
theorem dX1_init_112 : decode cX1_init 112 = .ok (.aload_n 0, 1) := by decide +kernel
theorem dX1_init_113 : decode cX1_init 113 = .ok (.iconst 1, 1) := by decide +kernel
theorem dX1_init_114 : decode cX1_init 114 = .ok (.putfield 39, 3) := by decide +kernel
theorem dX1_init_117 : decode cX1_init 117 = .ok (.return_, 1) := by decide +kernel
theorem dX1_size_0 : decode cX1_size 0 = .ok (.aload_n 0, 1) := by decide +kernel
theorem dX1_size_1 : decode cX1_size 1 = .ok (.getfield 39, 3) := by decide +kernel
theorem dX1_size_4 : decode cX1_size 4 = .ok (.ireturn, 1) := by decide +kernel
theorem dX1_has_0 : decode cX1_has 0 = .ok (.iload_n 1, 1) := by decide +kernel
theorem dX1_has_1 : decode cX1_has 1 = .ok (.ifCond .lt 15, 3) := by decide +kernel
theorem dX1_has_4 : decode cX1_has 4 = .ok (.iload_n 1, 1) := by decide +kernel
theorem dX1_has_5 : decode cX1_has 5 = .ok (.aload_n 0, 1) := by decide +kernel
theorem dX1_has_6 : decode cX1_has 6 = .ok (.getfield 39, 3) := by decide +kernel
theorem dX1_has_9 : decode cX1_has 9 = .ok (.if_icmp .ge 7, 3) := by decide +kernel
theorem dX1_has_12 : decode cX1_has 12 = .ok (.iconst 1, 1) := by decide +kernel
theorem dX1_has_13 : decode cX1_has 13 = .ok (.goto 4, 3) := by decide +kernel
theorem dX1_has_16 : decode cX1_has 16 = .ok (.iconst 0, 1) := by decide +kernel
theorem dX1_has_17 : decode cX1_has 17 = .ok (.ireturn, 1) := by decide +kernel
theorem dX1_treeOf_0 : decode cX1_treeOf 0 = .ok (.aload_n 0, 1) := by decide +kernel
theorem dX1_treeOf_1 : decode cX1_treeOf 1 = .ok (.iload_n 1, 1) := by decide +kernel
theorem dX1_treeOf_2 : decode cX1_treeOf 2 = .ok (.invokevirtual 43, 3) := by decide +kernel
theorem dX1_treeOf_5 : decode cX1_treeOf 5 = .ok (.ifCond .eq 12, 3) := by decide +kernel
theorem dX1_treeOf_8 : decode cX1_treeOf 8 = .ok (.aload_n 0, 1) := by decide +kernel
theorem dX1_treeOf_9 : decode cX1_treeOf 9 = .ok (.getfield 11, 3) := by decide +kernel
theorem dX1_treeOf_12 : decode cX1_treeOf 12 = .ok (.iload_n 1, 1) := by decide +kernel
theorem dX1_treeOf_13 : decode cX1_treeOf 13 = .ok (.aaload, 1) := by decide +kernel
theorem dX1_treeOf_14 : decode cX1_treeOf 14 = .ok (.goto 7, 3) := by decide +kernel
theorem dX1_treeOf_17 : decode cX1_treeOf 17 = .ok (.aload_n 0, 1) := by decide +kernel
theorem dX1_treeOf_18 : decode cX1_treeOf 18 = .ok (.getfield 18, 3) := by decide +kernel
theorem dX1_treeOf_21 : decode cX1_treeOf 21 = .ok (.astore_n 2, 1) := by decide +kernel
theorem dX1_treeOf_22 : decode cX1_treeOf 22 = .ok (.aload_n 2, 1) := by decide +kernel
theorem dX1_treeOf_23 : decode cX1_treeOf 23 = .ok (.ifnonnull 10, 3) := by decide +kernel
theorem dX1_treeOf_26 : decode cX1_treeOf 26 = .ok (.aload_n 0, 1) := by decide +kernel
theorem dX1_treeOf_27 : decode cX1_treeOf 27 = .ok (.getfield 18, 3) := by decide +kernel
theorem dX1_treeOf_30 : decode cX1_treeOf 30 = .ok (.goto 4, 3) := by decide +kernel
theorem dX1_treeOf_33 : decode cX1_treeOf 33 = .ok (.aload_n 2, 1) := by decide +kernel
theorem dX1_treeOf_34 : decode cX1_treeOf 34 = .ok (.areturn, 1) := by decide +kernel
theorem dX1_firstParent_0 : decode cX1_firstParent 0 = .ok (.aload_n 0, 1) := by decide +kernel
theorem dX1_firstParent_1 : decode cX1_firstParent 1 = .ok (.iload_n 1, 1) := by decide +kernel
theorem dX1_firstParent_2 : decode cX1_firstParent 2 = .ok (.invokevirtual 43, 3) := by decide +kernel
theorem dX1_firstParent_5 : decode cX1_firstParent 5 = .ok (.ifCond .eq 12, 3) := by decide +kernel
theorem dX1_firstParent_8 : decode cX1_firstParent 8 = .ok (.aload_n 0, 1) := by decide +kernel
theorem dX1_firstParent_9 : decode cX1_firstParent 9 = .ok (.getfield 22, 3) := by decide +kernel
theorem dX1_firstParent_12 : decode cX1_firstParent 12 = .ok (.iload_n 1, 1) := by decide +kernel
theorem dX1_firstParent_13 : decode cX1_firstParent 13 = .ok (.iaload, 1) := by decide +kernel
theorem dX1_firstParent_14 : decode cX1_firstParent 14 = .ok (.goto 4, 3) := by decide +kernel
theorem dX1_firstParent_17 : decode cX1_firstParent 17 = .ok (.iconst (-1), 1) := by decide +kernel
theorem dX1_firstParent_18 : decode cX1_firstParent 18 = .ok (.ireturn, 1) := by decide +kernel
theorem dX1_secondParent_0 : decode cX1_secondParent 0 = .ok (.aload_n 0, 1) := by decide +kernel
theorem dX1_secondParent_1 : decode cX1_secondParent 1 = .ok (.iload_n 1, 1) := by decide +kernel
theorem dX1_secondParent_2 : decode cX1_secondParent 2 = .ok (.invokevirtual 43, 3) := by decide +kernel
theorem dX1_secondParent_5 : decode cX1_secondParent 5 = .ok (.ifCond .eq 12, 3) := by decide +kernel
theorem dX1_secondParent_8 : decode cX1_secondParent 8 = .ok (.aload_n 0, 1) := by decide +kernel
theorem dX1_secondParent_9 : decode cX1_secondParent 9 = .ok (.getfield 26, 3) := by decide +kernel
theorem dX1_secondParent_12 : decode cX1_secondParent 12 = .ok (.iload_n 1, 1) := by decide +kernel
theorem dX1_secondParent_13 : decode cX1_secondParent 13 = .ok (.iaload, 1) := by decide +kernel
theorem dX1_secondParent_14 : decode cX1_secondParent 14 = .ok (.goto 4, 3) := by decide +kernel
theorem dX1_secondParent_17 : decode cX1_secondParent 17 = .ok (.iconst (-1), 1) := by decide +kernel
theorem dX1_secondParent_18 : decode cX1_secondParent 18 = .ok (.ireturn, 1) := by decide +kernel
theorem dX1_generationAt_0 : decode cX1_generationAt 0 = .ok (.aload_n 0, 1) := by decide +kernel
theorem dX1_generationAt_1 : decode cX1_generationAt 1 = .ok (.iload_n 1, 1) := by decide +kernel
theorem dX1_generationAt_2 : decode cX1_generationAt 2 = .ok (.invokevirtual 43, 3) := by decide +kernel
theorem dX1_generationAt_5 : decode cX1_generationAt 5 = .ok (.ifCond .eq 12, 3) := by decide +kernel
theorem dX1_generationAt_8 : decode cX1_generationAt 8 = .ok (.aload_n 0, 1) := by decide +kernel
theorem dX1_generationAt_9 : decode cX1_generationAt 9 = .ok (.getfield 29, 3) := by decide +kernel
theorem dX1_generationAt_12 : decode cX1_generationAt 12 = .ok (.iload_n 1, 1) := by decide +kernel
theorem dX1_generationAt_13 : decode cX1_generationAt 13 = .ok (.iaload, 1) := by decide +kernel
theorem dX1_generationAt_14 : decode cX1_generationAt 14 = .ok (.goto 4, 3) := by decide +kernel
theorem dX1_generationAt_17 : decode cX1_generationAt 17 = .ok (.iconst (-1), 1) := by decide +kernel
theorem dX1_generationAt_18 : decode cX1_generationAt 18 = .ok (.ireturn, 1) := by decide +kernel
theorem dX1_ancestorsAt_0 : decode cX1_ancestorsAt 0 = .ok (.aload_n 0, 1) := by decide +kernel
theorem dX1_ancestorsAt_1 : decode cX1_ancestorsAt 1 = .ok (.iload_n 1, 1) := by decide +kernel
theorem dX1_ancestorsAt_2 : decode cX1_ancestorsAt 2 = .ok (.invokevirtual 43, 3) := by decide +kernel
theorem dX1_ancestorsAt_5 : decode cX1_ancestorsAt 5 = .ok (.ifCond .eq 12, 3) := by decide +kernel
theorem dX1_ancestorsAt_8 : decode cX1_ancestorsAt 8 = .ok (.aload_n 0, 1) := by decide +kernel
theorem dX1_ancestorsAt_9 : decode cX1_ancestorsAt 9 = .ok (.getfield 32, 3) := by decide +kernel
theorem dX1_ancestorsAt_12 : decode cX1_ancestorsAt 12 = .ok (.iload_n 1, 1) := by decide +kernel
theorem dX1_ancestorsAt_13 : decode cX1_ancestorsAt 13 = .ok (.laload, 1) := by decide +kernel
theorem dX1_ancestorsAt_14 : decode cX1_ancestorsAt 14 = .ok (.goto 4, 3) := by decide +kernel
theorem dX1_ancestorsAt_17 : decode cX1_ancestorsAt 17 = .ok (.lconst 0, 1) := by decide +kernel
theorem dX1_ancestorsAt_18 : decode cX1_ancestorsAt 18 = .ok (.lreturn, 1) := by decide +kernel
theorem dX1_record_0 : decode cX1_record 0 = .ok (.aload_n 0, 1) := by decide +kernel
theorem dX1_record_1 : decode cX1_record 1 = .ok (.aload_n 1, 1) := by decide +kernel
theorem dX1_record_2 : decode cX1_record 2 = .ok (.iload_n 2, 1) := by decide +kernel
theorem dX1_record_3 : decode cX1_record 3 = .ok (.iload_n 3, 1) := by decide +kernel
theorem dX1_record_4 : decode cX1_record 4 = .ok (.invokevirtual 47, 3) := by decide +kernel
theorem dX1_record_7 : decode cX1_record 7 = .ok (.istore 4, 2) := by decide +kernel
theorem dX1_record_9 : decode cX1_record 9 = .ok (.iload 4, 2) := by decide +kernel
theorem dX1_record_11 : decode cX1_record 11 = .ok (.iconst (-1), 1) := by decide +kernel
theorem dX1_record_12 : decode cX1_record 12 = .ok (.if_icmp .ne 12, 3) := by decide +kernel
theorem dX1_record_15 : decode cX1_record 15 = .ok (.aload_n 0, 1) := by decide +kernel
theorem dX1_record_16 : decode cX1_record 16 = .ok (.getfield 39, 3) := by decide +kernel
theorem dX1_record_19 : decode cX1_record 19 = .ok (.bipush 60, 2) := by decide +kernel
theorem dX1_record_21 : decode cX1_record 21 = .ok (.if_icmp .lt 6, 3) := by decide +kernel
theorem dX1_record_24 : decode cX1_record 24 = .ok (.iload 4, 2) := by decide +kernel
theorem dX1_record_26 : decode cX1_record 26 = .ok (.ireturn, 1) := by decide +kernel
theorem dX1_record_27 : decode cX1_record 27 = .ok (.aload_n 0, 1) := by decide +kernel
theorem dX1_record_28 : decode cX1_record 28 = .ok (.getfield 39, 3) := by decide +kernel
theorem dX1_record_31 : decode cX1_record 31 = .ok (.istore 5, 2) := by decide +kernel
theorem dX1_record_33 : decode cX1_record 33 = .ok (.aload_n 0, 1) := by decide +kernel
theorem dX1_record_34 : decode cX1_record 34 = .ok (.dup, 1) := by decide +kernel
theorem dX1_record_35 : decode cX1_record 35 = .ok (.getfield 39, 3) := by decide +kernel
theorem dX1_record_38 : decode cX1_record 38 = .ok (.iconst 1, 1) := by decide +kernel
theorem dX1_record_39 : decode cX1_record 39 = .ok (.iadd, 1) := by decide +kernel
theorem dX1_record_40 : decode cX1_record 40 = .ok (.putfield 39, 3) := by decide +kernel
theorem dX1_record_43 : decode cX1_record 43 = .ok (.aload_n 0, 1) := by decide +kernel
theorem dX1_record_44 : decode cX1_record 44 = .ok (.iload 5, 2) := by decide +kernel
theorem dX1_record_46 : decode cX1_record 46 = .ok (.invokevirtual 51, 3) := by decide +kernel
theorem dX1_record_49 : decode cX1_record 49 = .ok (.aload_n 1, 1) := by decide +kernel
theorem dX1_record_50 : decode cX1_record 50 = .ok (.invokevirtual 55, 3) := by decide +kernel
theorem dX1_record_53 : decode cX1_record 53 = .ok (.aload_n 0, 1) := by decide +kernel
theorem dX1_record_54 : decode cX1_record 54 = .ok (.getfield 22, 3) := by decide +kernel
theorem dX1_record_57 : decode cX1_record 57 = .ok (.iload 5, 2) := by decide +kernel
theorem dX1_record_59 : decode cX1_record 59 = .ok (.iload_n 2, 1) := by decide +kernel
theorem dX1_record_60 : decode cX1_record 60 = .ok (.iastore, 1) := by decide +kernel
theorem dX1_record_61 : decode cX1_record 61 = .ok (.aload_n 0, 1) := by decide +kernel
theorem dX1_record_62 : decode cX1_record 62 = .ok (.getfield 26, 3) := by decide +kernel
theorem dX1_record_65 : decode cX1_record 65 = .ok (.iload 5, 2) := by decide +kernel
theorem dX1_record_67 : decode cX1_record 67 = .ok (.iload_n 3, 1) := by decide +kernel
theorem dX1_record_68 : decode cX1_record 68 = .ok (.iastore, 1) := by decide +kernel
theorem dX1_record_69 : decode cX1_record 69 = .ok (.aload_n 0, 1) := by decide +kernel
theorem dX1_record_70 : decode cX1_record 70 = .ok (.getfield 29, 3) := by decide +kernel
theorem dX1_record_73 : decode cX1_record 73 = .ok (.iload 5, 2) := by decide +kernel
theorem dX1_record_75 : decode cX1_record 75 = .ok (.iconst 1, 1) := by decide +kernel
theorem dX1_record_76 : decode cX1_record 76 = .ok (.aload_n 0, 1) := by decide +kernel
theorem dX1_record_77 : decode cX1_record 77 = .ok (.iload_n 2, 1) := by decide +kernel
theorem dX1_record_78 : decode cX1_record 78 = .ok (.invokevirtual 59, 3) := by decide +kernel
theorem dX1_record_81 : decode cX1_record 81 = .ok (.aload_n 0, 1) := by decide +kernel
theorem dX1_record_82 : decode cX1_record 82 = .ok (.iload_n 3, 1) := by decide +kernel
theorem dX1_record_83 : decode cX1_record 83 = .ok (.invokevirtual 59, 3) := by decide +kernel
theorem dX1_record_86 : decode cX1_record 86 = .ok (.invokestatic 63, 3) := by decide +kernel
theorem dX1_record_89 : decode cX1_record 89 = .ok (.iadd, 1) := by decide +kernel
theorem dX1_record_90 : decode cX1_record 90 = .ok (.iastore, 1) := by decide +kernel
theorem dX1_record_91 : decode cX1_record 91 = .ok (.aload_n 0, 1) := by decide +kernel
theorem dX1_record_92 : decode cX1_record 92 = .ok (.getfield 32, 3) := by decide +kernel
theorem dX1_record_95 : decode cX1_record 95 = .ok (.iload 5, 2) := by decide +kernel
theorem dX1_record_97 : decode cX1_record 97 = .ok (.aload_n 0, 1) := by decide +kernel
theorem dX1_record_98 : decode cX1_record 98 = .ok (.iload_n 2, 1) := by decide +kernel
theorem dX1_record_99 : decode cX1_record 99 = .ok (.invokevirtual 69, 3) := by decide +kernel
theorem dX1_record_102 : decode cX1_record 102 = .ok (.aload_n 0, 1) := by decide +kernel
theorem dX1_record_103 : decode cX1_record 103 = .ok (.iload_n 3, 1) := by decide +kernel
theorem dX1_record_104 : decode cX1_record 104 = .ok (.invokevirtual 69, 3) := by decide +kernel
theorem dX1_record_107 : decode cX1_record 107 = .ok (.lor, 1) := by decide +kernel
theorem dX1_record_108 : decode cX1_record 108 = .ok (.lconst 1, 1) := by decide +kernel
theorem dX1_record_109 : decode cX1_record 109 = .ok (.iload 5, 2) := by decide +kernel
theorem dX1_record_111 : decode cX1_record 111 = .ok (.lshl, 1) := by decide +kernel
theorem dX1_record_112 : decode cX1_record 112 = .ok (.lor, 1) := by decide +kernel
theorem dX1_record_113 : decode cX1_record 113 = .ok (.lastore, 1) := by decide +kernel
theorem dX1_record_114 : decode cX1_record 114 = .ok (.iload 5, 2) := by decide +kernel
theorem dX1_record_116 : decode cX1_record 116 = .ok (.ireturn, 1) := by decide +kernel
theorem dX1_findSame_0 : decode cX1_findSame 0 = .ok (.iconst 0, 1) := by decide +kernel
theorem dX1_findSame_1 : decode cX1_findSame 1 = .ok (.istore 4, 2) := by decide +kernel
theorem dX1_findSame_3 : decode cX1_findSame 3 = .ok (.iload 4, 2) := by decide +kernel
theorem dX1_findSame_5 : decode cX1_findSame 5 = .ok (.aload_n 0, 1) := by decide +kernel
theorem dX1_findSame_6 : decode cX1_findSame 6 = .ok (.getfield 39, 3) := by decide +kernel
theorem dX1_findSame_9 : decode cX1_findSame 9 = .ok (.if_icmp .ge 45, 3) := by decide +kernel
theorem dX1_findSame_12 : decode cX1_findSame 12 = .ok (.aload_n 0, 1) := by decide +kernel
theorem dX1_findSame_13 : decode cX1_findSame 13 = .ok (.iload 4, 2) := by decide +kernel
theorem dX1_findSame_15 : decode cX1_findSame 15 = .ok (.invokevirtual 73, 3) := by decide +kernel
theorem dX1_findSame_18 : decode cX1_findSame 18 = .ok (.iload_n 2, 1) := by decide +kernel
theorem dX1_findSame_19 : decode cX1_findSame 19 = .ok (.if_icmp .ne 29, 3) := by decide +kernel
theorem dX1_findSame_22 : decode cX1_findSame 22 = .ok (.aload_n 0, 1) := by decide +kernel
theorem dX1_findSame_23 : decode cX1_findSame 23 = .ok (.iload 4, 2) := by decide +kernel
theorem dX1_findSame_25 : decode cX1_findSame 25 = .ok (.invokevirtual 76, 3) := by decide +kernel
theorem dX1_findSame_28 : decode cX1_findSame 28 = .ok (.iload_n 3, 1) := by decide +kernel
theorem dX1_findSame_29 : decode cX1_findSame 29 = .ok (.if_icmp .ne 19, 3) := by decide +kernel
theorem dX1_findSame_32 : decode cX1_findSame 32 = .ok (.aload_n 0, 1) := by decide +kernel
theorem dX1_findSame_33 : decode cX1_findSame 33 = .ok (.iload 4, 2) := by decide +kernel
theorem dX1_findSame_35 : decode cX1_findSame 35 = .ok (.invokevirtual 51, 3) := by decide +kernel
theorem dX1_findSame_38 : decode cX1_findSame 38 = .ok (.aload_n 1, 1) := by decide +kernel
theorem dX1_findSame_39 : decode cX1_findSame 39 = .ok (.invokevirtual 79, 3) := by decide +kernel
theorem dX1_findSame_42 : decode cX1_findSame 42 = .ok (.ifCond .ne 6, 3) := by decide +kernel
theorem dX1_findSame_45 : decode cX1_findSame 45 = .ok (.iload 4, 2) := by decide +kernel
theorem dX1_findSame_47 : decode cX1_findSame 47 = .ok (.ireturn, 1) := by decide +kernel
theorem dX1_findSame_48 : decode cX1_findSame 48 = .ok (.iinc 4 1, 3) := by decide +kernel
theorem dX1_findSame_51 : decode cX1_findSame 51 = .ok (.goto (-48), 3) := by decide +kernel
theorem dX1_findSame_54 : decode cX1_findSame 54 = .ok (.iconst (-1), 1) := by decide +kernel
theorem dX1_findSame_55 : decode cX1_findSame 55 = .ok (.ireturn, 1) := by decide +kernel
theorem dX1_dropBackTo_0 : decode cX1_dropBackTo 0 = .ok (.iload_n 1, 1) := by decide +kernel
theorem dX1_dropBackTo_1 : decode cX1_dropBackTo 1 = .ok (.ifCond .le 16, 3) := by decide +kernel
theorem dX1_dropBackTo_4 : decode cX1_dropBackTo 4 = .ok (.iload_n 1, 1) := by decide +kernel
theorem dX1_dropBackTo_5 : decode cX1_dropBackTo 5 = .ok (.aload_n 0, 1) := by decide +kernel
theorem dX1_dropBackTo_6 : decode cX1_dropBackTo 6 = .ok (.getfield 39, 3) := by decide +kernel
theorem dX1_dropBackTo_9 : decode cX1_dropBackTo 9 = .ok (.if_icmp .ge 8, 3) := by decide +kernel
theorem dX1_dropBackTo_12 : decode cX1_dropBackTo 12 = .ok (.aload_n 0, 1) := by decide +kernel
theorem dX1_dropBackTo_13 : decode cX1_dropBackTo 13 = .ok (.iload_n 1, 1) := by decide +kernel
theorem dX1_dropBackTo_14 : decode cX1_dropBackTo 14 = .ok (.putfield 39, 3) := by decide +kernel
theorem dX1_dropBackTo_17 : decode cX1_dropBackTo 17 = .ok (.return_, 1) := by decide +kernel
theorem dX1_isIn_0 : decode cX1_isIn 0 = .ok (.aload_n 0, 1) := by decide +kernel
theorem dX1_isIn_1 : decode cX1_isIn 1 = .ok (.iload_n 3, 1) := by decide +kernel
theorem dX1_isIn_2 : decode cX1_isIn 2 = .ok (.invokevirtual 43, 3) := by decide +kernel
theorem dX1_isIn_5 : decode cX1_isIn 5 = .ok (.ifCond .eq 17, 3) := by decide +kernel
theorem dX1_isIn_8 : decode cX1_isIn 8 = .ok (.lload_n 1, 1) := by decide +kernel
theorem dX1_isIn_9 : decode cX1_isIn 9 = .ok (.iload_n 3, 1) := by decide +kernel
theorem dX1_isIn_10 : decode cX1_isIn 10 = .ok (.lushr, 1) := by decide +kernel
theorem dX1_isIn_11 : decode cX1_isIn 11 = .ok (.lconst 1, 1) := by decide +kernel
theorem dX1_isIn_12 : decode cX1_isIn 12 = .ok (.land, 1) := by decide +kernel
theorem dX1_isIn_13 : decode cX1_isIn 13 = .ok (.lconst 0, 1) := by decide +kernel
theorem dX1_isIn_14 : decode cX1_isIn 14 = .ok (.lcmp, 1) := by decide +kernel
theorem dX1_isIn_15 : decode cX1_isIn 15 = .ok (.ifCond .eq 7, 3) := by decide +kernel
theorem dX1_isIn_18 : decode cX1_isIn 18 = .ok (.iconst 1, 1) := by decide +kernel
theorem dX1_isIn_19 : decode cX1_isIn 19 = .ok (.goto 4, 3) := by decide +kernel
theorem dX1_isIn_22 : decode cX1_isIn 22 = .ok (.iconst 0, 1) := by decide +kernel
theorem dX1_isIn_23 : decode cX1_isIn 23 = .ok (.ireturn, 1) := by decide +kernel
theorem dX1_contains_0 : decode cX1_contains 0 = .ok (.aload_n 0, 1) := by decide +kernel
theorem dX1_contains_1 : decode cX1_contains 1 = .ok (.aload_n 0, 1) := by decide +kernel
theorem dX1_contains_2 : decode cX1_contains 2 = .ok (.iload_n 1, 1) := by decide +kernel
theorem dX1_contains_3 : decode cX1_contains 3 = .ok (.invokevirtual 69, 3) := by decide +kernel
theorem dX1_contains_6 : decode cX1_contains 6 = .ok (.iload_n 2, 1) := by decide +kernel
theorem dX1_contains_7 : decode cX1_contains 7 = .ok (.invokevirtual 83, 3) := by decide +kernel
theorem dX1_contains_10 : decode cX1_contains 10 = .ok (.ireturn, 1) := by decide +kernel
theorem dX1_bestBase_0 : decode cX1_bestBase 0 = .ok (.aload_n 0, 1) := by decide +kernel
theorem dX1_bestBase_1 : decode cX1_bestBase 1 = .ok (.iload_n 1, 1) := by decide +kernel
theorem dX1_bestBase_2 : decode cX1_bestBase 2 = .ok (.invokevirtual 69, 3) := by decide +kernel
theorem dX1_bestBase_5 : decode cX1_bestBase 5 = .ok (.aload_n 0, 1) := by decide +kernel
theorem dX1_bestBase_6 : decode cX1_bestBase 6 = .ok (.iload_n 2, 1) := by decide +kernel
theorem dX1_bestBase_7 : decode cX1_bestBase 7 = .ok (.invokevirtual 69, 3) := by decide +kernel
theorem dX1_bestBase_10 : decode cX1_bestBase 10 = .ok (.land, 1) := by decide +kernel
theorem dX1_bestBase_11 : decode cX1_bestBase 11 = .ok (.lstore_n 3, 1) := by decide +kernel
theorem dX1_bestBase_12 : decode cX1_bestBase 12 = .ok (.aload_n 0, 1) := by decide +kernel
theorem dX1_bestBase_13 : decode cX1_bestBase 13 = .ok (.getfield 39, 3) := by decide +kernel
theorem dX1_bestBase_16 : decode cX1_bestBase 16 = .ok (.iconst 1, 1) := by decide +kernel
theorem dX1_bestBase_17 : decode cX1_bestBase 17 = .ok (.isub, 1) := by decide +kernel
theorem dX1_bestBase_18 : decode cX1_bestBase 18 = .ok (.istore 5, 2) := by decide +kernel
theorem dX1_bestBase_20 : decode cX1_bestBase 20 = .ok (.iload 5, 2) := by decide +kernel
theorem dX1_bestBase_22 : decode cX1_bestBase 22 = .ok (.ifCond .lt 19, 3) := by decide +kernel
theorem dX1_bestBase_25 : decode cX1_bestBase 25 = .ok (.aload_n 0, 1) := by decide +kernel
theorem dX1_bestBase_26 : decode cX1_bestBase 26 = .ok (.lload_n 3, 1) := by decide +kernel
theorem dX1_bestBase_27 : decode cX1_bestBase 27 = .ok (.iload 5, 2) := by decide +kernel
theorem dX1_bestBase_29 : decode cX1_bestBase 29 = .ok (.invokevirtual 83, 3) := by decide +kernel
theorem dX1_bestBase_32 : decode cX1_bestBase 32 = .ok (.ifCond .ne 9, 3) := by decide +kernel
theorem dX1_bestBase_35 : decode cX1_bestBase 35 = .ok (.iinc 5 (-1), 3) := by decide +kernel
theorem dX1_bestBase_38 : decode cX1_bestBase 38 = .ok (.goto (-18), 3) := by decide +kernel
theorem dX1_bestBase_41 : decode cX1_bestBase 41 = .ok (.iload 5, 2) := by decide +kernel
theorem dX1_bestBase_43 : decode cX1_bestBase 43 = .ok (.ireturn, 1) := by decide +kernel
theorem dX1_countBases_0 : decode cX1_countBases 0 = .ok (.aload_n 0, 1) := by decide +kernel
theorem dX1_countBases_1 : decode cX1_countBases 1 = .ok (.iload_n 1, 1) := by decide +kernel
theorem dX1_countBases_2 : decode cX1_countBases 2 = .ok (.invokevirtual 69, 3) := by decide +kernel
theorem dX1_countBases_5 : decode cX1_countBases 5 = .ok (.aload_n 0, 1) := by decide +kernel
theorem dX1_countBases_6 : decode cX1_countBases 6 = .ok (.iload_n 2, 1) := by decide +kernel
theorem dX1_countBases_7 : decode cX1_countBases 7 = .ok (.invokevirtual 69, 3) := by decide +kernel
theorem dX1_countBases_10 : decode cX1_countBases 10 = .ok (.land, 1) := by decide +kernel
theorem dX1_countBases_11 : decode cX1_countBases 11 = .ok (.lstore_n 3, 1) := by decide +kernel
theorem dX1_countBases_12 : decode cX1_countBases 12 = .ok (.lconst 0, 1) := by decide +kernel
theorem dX1_countBases_13 : decode cX1_countBases 13 = .ok (.lstore 5, 2) := by decide +kernel
theorem dX1_countBases_15 : decode cX1_countBases 15 = .ok (.iconst 0, 1) := by decide +kernel
theorem dX1_countBases_16 : decode cX1_countBases 16 = .ok (.istore 7, 2) := by decide +kernel
theorem dX1_countBases_18 : decode cX1_countBases 18 = .ok (.iload 7, 2) := by decide +kernel
theorem dX1_countBases_20 : decode cX1_countBases 20 = .ok (.aload_n 0, 1) := by decide +kernel
theorem dX1_countBases_21 : decode cX1_countBases 21 = .ok (.getfield 39, 3) := by decide +kernel
theorem dX1_countBases_24 : decode cX1_countBases 24 = .ok (.if_icmp .ge 39, 3) := by decide +kernel
theorem dX1_countBases_27 : decode cX1_countBases 27 = .ok (.aload_n 0, 1) := by decide +kernel
theorem dX1_countBases_28 : decode cX1_countBases 28 = .ok (.lload_n 3, 1) := by decide +kernel
theorem dX1_countBases_29 : decode cX1_countBases 29 = .ok (.iload 7, 2) := by decide +kernel
theorem dX1_countBases_31 : decode cX1_countBases 31 = .ok (.invokevirtual 83, 3) := by decide +kernel
theorem dX1_countBases_34 : decode cX1_countBases 34 = .ok (.ifCond .eq 23, 3) := by decide +kernel
theorem dX1_countBases_37 : decode cX1_countBases 37 = .ok (.lload 5, 2) := by decide +kernel
theorem dX1_countBases_39 : decode cX1_countBases 39 = .ok (.aload_n 0, 1) := by decide +kernel
theorem dX1_countBases_40 : decode cX1_countBases 40 = .ok (.iload 7, 2) := by decide +kernel
theorem dX1_countBases_42 : decode cX1_countBases 42 = .ok (.invokevirtual 69, 3) := by decide +kernel
theorem dX1_countBases_45 : decode cX1_countBases 45 = .ok (.lconst 1, 1) := by decide +kernel
theorem dX1_countBases_46 : decode cX1_countBases 46 = .ok (.iload 7, 2) := by decide +kernel
theorem dX1_countBases_48 : decode cX1_countBases 48 = .ok (.lshl, 1) := by decide +kernel
theorem dX1_countBases_49 : decode cX1_countBases 49 = .ok (.ldc2_w 87, 3) := by decide +kernel
theorem dX1_countBases_52 : decode cX1_countBases 52 = .ok (.lxor, 1) := by decide +kernel
theorem dX1_countBases_53 : decode cX1_countBases 53 = .ok (.land, 1) := by decide +kernel
theorem dX1_countBases_54 : decode cX1_countBases 54 = .ok (.lor, 1) := by decide +kernel
theorem dX1_countBases_55 : decode cX1_countBases 55 = .ok (.lstore 5, 2) := by decide +kernel
theorem dX1_countBases_57 : decode cX1_countBases 57 = .ok (.iinc 7 1, 3) := by decide +kernel
theorem dX1_countBases_60 : decode cX1_countBases 60 = .ok (.goto (-42), 3) := by decide +kernel
theorem dX1_countBases_63 : decode cX1_countBases 63 = .ok (.lload_n 3, 1) := by decide +kernel
theorem dX1_countBases_64 : decode cX1_countBases 64 = .ok (.lload 5, 2) := by decide +kernel
theorem dX1_countBases_66 : decode cX1_countBases 66 = .ok (.ldc2_w 87, 3) := by decide +kernel
theorem dX1_countBases_69 : decode cX1_countBases 69 = .ok (.lxor, 1) := by decide +kernel
theorem dX1_countBases_70 : decode cX1_countBases 70 = .ok (.land, 1) := by decide +kernel
theorem dX1_countBases_71 : decode cX1_countBases 71 = .ok (.invokestatic 89, 3) := by decide +kernel
theorem dX1_countBases_74 : decode cX1_countBases 74 = .ok (.ireturn, 1) := by decide +kernel
theorem dX1_walkMeets_0 : decode cX1_walkMeets 0 = .ok (.aload_n 0, 1) := by decide +kernel
theorem dX1_walkMeets_1 : decode cX1_walkMeets 1 = .ok (.invokevirtual 95, 3) := by decide +kernel
theorem dX1_walkMeets_4 : decode cX1_walkMeets 4 = .ok (.aload_n 0, 1) := by decide +kernel
theorem dX1_walkMeets_5 : decode cX1_walkMeets 5 = .ok (.iload_n 1, 1) := by decide +kernel
theorem dX1_walkMeets_6 : decode cX1_walkMeets 6 = .ok (.iconst 1, 1) := by decide +kernel
theorem dX1_walkMeets_7 : decode cX1_walkMeets 7 = .ok (.invokevirtual 98, 3) := by decide +kernel
theorem dX1_walkMeets_10 : decode cX1_walkMeets 10 = .ok (.aload_n 0, 1) := by decide +kernel
theorem dX1_walkMeets_11 : decode cX1_walkMeets 11 = .ok (.getfield 39, 3) := by decide +kernel
theorem dX1_walkMeets_14 : decode cX1_walkMeets 14 = .ok (.iconst 1, 1) := by decide +kernel
theorem dX1_walkMeets_15 : decode cX1_walkMeets 15 = .ok (.isub, 1) := by decide +kernel
theorem dX1_walkMeets_16 : decode cX1_walkMeets 16 = .ok (.istore_n 3, 1) := by decide +kernel
theorem dX1_walkMeets_17 : decode cX1_walkMeets 17 = .ok (.iload_n 3, 1) := by decide +kernel
theorem dX1_walkMeets_18 : decode cX1_walkMeets 18 = .ok (.ifCond .lt 14, 3) := by decide +kernel
theorem dX1_walkMeets_21 : decode cX1_walkMeets 21 = .ok (.aload_n 0, 1) := by decide +kernel
theorem dX1_walkMeets_22 : decode cX1_walkMeets 22 = .ok (.iload_n 3, 1) := by decide +kernel
theorem dX1_walkMeets_23 : decode cX1_walkMeets 23 = .ok (.invokevirtual 102, 3) := by decide +kernel
theorem dX1_walkMeets_26 : decode cX1_walkMeets 26 = .ok (.iinc 3 (-1), 3) := by decide +kernel
theorem dX1_walkMeets_29 : decode cX1_walkMeets 29 = .ok (.goto (-12), 3) := by decide +kernel
theorem dX1_walkMeets_32 : decode cX1_walkMeets 32 = .ok (.aload_n 0, 1) := by decide +kernel
theorem dX1_walkMeets_33 : decode cX1_walkMeets 33 = .ok (.iload_n 2, 1) := by decide +kernel
theorem dX1_walkMeets_34 : decode cX1_walkMeets 34 = .ok (.invokevirtual 106, 3) := by decide +kernel
theorem dX1_walkMeets_37 : decode cX1_walkMeets 37 = .ok (.iconst 1, 1) := by decide +kernel
theorem dX1_walkMeets_38 : decode cX1_walkMeets 38 = .ok (.if_icmp .ne 7, 3) := by decide +kernel
theorem dX1_walkMeets_41 : decode cX1_walkMeets 41 = .ok (.iconst 1, 1) := by decide +kernel
theorem dX1_walkMeets_42 : decode cX1_walkMeets 42 = .ok (.goto 4, 3) := by decide +kernel
theorem dX1_walkMeets_45 : decode cX1_walkMeets 45 = .ok (.iconst 0, 1) := by decide +kernel
theorem dX1_walkMeets_46 : decode cX1_walkMeets 46 = .ok (.ireturn, 1) := by decide +kernel
theorem dX1_walkToBestBase_0 : decode cX1_walkToBestBase 0 = .ok (.aload_n 0, 1) := by decide +kernel
theorem dX1_walkToBestBase_1 : decode cX1_walkToBestBase 1 = .ok (.invokevirtual 95, 3) := by decide +kernel
theorem dX1_walkToBestBase_4 : decode cX1_walkToBestBase 4 = .ok (.aload_n 0, 1) := by decide +kernel
theorem dX1_walkToBestBase_5 : decode cX1_walkToBestBase 5 = .ok (.iload_n 1, 1) := by decide +kernel
theorem dX1_walkToBestBase_6 : decode cX1_walkToBestBase 6 = .ok (.iconst 1, 1) := by decide +kernel
theorem dX1_walkToBestBase_7 : decode cX1_walkToBestBase 7 = .ok (.invokevirtual 98, 3) := by decide +kernel
theorem dX1_walkToBestBase_10 : decode cX1_walkToBestBase 10 = .ok (.aload_n 0, 1) := by decide +kernel
theorem dX1_walkToBestBase_11 : decode cX1_walkToBestBase 11 = .ok (.iload_n 2, 1) := by decide +kernel
theorem dX1_walkToBestBase_12 : decode cX1_walkToBestBase 12 = .ok (.iconst 2, 1) := by decide +kernel
theorem dX1_walkToBestBase_13 : decode cX1_walkToBestBase 13 = .ok (.invokevirtual 98, 3) := by decide +kernel
theorem dX1_walkToBestBase_16 : decode cX1_walkToBestBase 16 = .ok (.aload_n 0, 1) := by decide +kernel
theorem dX1_walkToBestBase_17 : decode cX1_walkToBestBase 17 = .ok (.getfield 39, 3) := by decide +kernel
theorem dX1_walkToBestBase_20 : decode cX1_walkToBestBase 20 = .ok (.iconst 1, 1) := by decide +kernel
theorem dX1_walkToBestBase_21 : decode cX1_walkToBestBase 21 = .ok (.isub, 1) := by decide +kernel
theorem dX1_walkToBestBase_22 : decode cX1_walkToBestBase 22 = .ok (.istore_n 3, 1) := by decide +kernel
theorem dX1_walkToBestBase_23 : decode cX1_walkToBestBase 23 = .ok (.iload_n 3, 1) := by decide +kernel
theorem dX1_walkToBestBase_24 : decode cX1_walkToBestBase 24 = .ok (.ifCond .lt 25, 3) := by decide +kernel
theorem dX1_walkToBestBase_27 : decode cX1_walkToBestBase 27 = .ok (.aload_n 0, 1) := by decide +kernel
theorem dX1_walkToBestBase_28 : decode cX1_walkToBestBase 28 = .ok (.iload_n 3, 1) := by decide +kernel
theorem dX1_walkToBestBase_29 : decode cX1_walkToBestBase 29 = .ok (.invokevirtual 106, 3) := by decide +kernel
theorem dX1_walkToBestBase_32 : decode cX1_walkToBestBase 32 = .ok (.iconst 3, 1) := by decide +kernel
theorem dX1_walkToBestBase_33 : decode cX1_walkToBestBase 33 = .ok (.if_icmp .ne 5, 3) := by decide +kernel
theorem dX1_walkToBestBase_36 : decode cX1_walkToBestBase 36 = .ok (.iload_n 3, 1) := by decide +kernel
theorem dX1_walkToBestBase_37 : decode cX1_walkToBestBase 37 = .ok (.ireturn, 1) := by decide +kernel
theorem dX1_walkToBestBase_38 : decode cX1_walkToBestBase 38 = .ok (.aload_n 0, 1) := by decide +kernel
theorem dX1_walkToBestBase_39 : decode cX1_walkToBestBase 39 = .ok (.iload_n 3, 1) := by decide +kernel
theorem dX1_walkToBestBase_40 : decode cX1_walkToBestBase 40 = .ok (.invokevirtual 102, 3) := by decide +kernel
theorem dX1_walkToBestBase_43 : decode cX1_walkToBestBase 43 = .ok (.iinc 3 (-1), 3) := by decide +kernel
theorem dX1_walkToBestBase_46 : decode cX1_walkToBestBase 46 = .ok (.goto (-23), 3) := by decide +kernel
theorem dX1_walkToBestBase_49 : decode cX1_walkToBestBase 49 = .ok (.iconst (-1), 1) := by decide +kernel
theorem dX1_walkToBestBase_50 : decode cX1_walkToBestBase 50 = .ok (.ireturn, 1) := by decide +kernel
theorem dX1_clearMarks_0 : decode cX1_clearMarks 0 = .ok (.iconst 0, 1) := by decide +kernel
theorem dX1_clearMarks_1 : decode cX1_clearMarks 1 = .ok (.istore_n 1, 1) := by decide +kernel
theorem dX1_clearMarks_2 : decode cX1_clearMarks 2 = .ok (.iload_n 1, 1) := by decide +kernel
theorem dX1_clearMarks_3 : decode cX1_clearMarks 3 = .ok (.aload_n 0, 1) := by decide +kernel
theorem dX1_clearMarks_4 : decode cX1_clearMarks 4 = .ok (.getfield 36, 3) := by decide +kernel
theorem dX1_clearMarks_7 : decode cX1_clearMarks 7 = .ok (.arraylength, 1) := by decide +kernel
theorem dX1_clearMarks_8 : decode cX1_clearMarks 8 = .ok (.if_icmp .ge 16, 3) := by decide +kernel
theorem dX1_clearMarks_11 : decode cX1_clearMarks 11 = .ok (.aload_n 0, 1) := by decide +kernel
theorem dX1_clearMarks_12 : decode cX1_clearMarks 12 = .ok (.getfield 36, 3) := by decide +kernel
theorem dX1_clearMarks_15 : decode cX1_clearMarks 15 = .ok (.iload_n 1, 1) := by decide +kernel
theorem dX1_clearMarks_16 : decode cX1_clearMarks 16 = .ok (.iconst 0, 1) := by decide +kernel
theorem dX1_clearMarks_17 : decode cX1_clearMarks 17 = .ok (.iastore, 1) := by decide +kernel
theorem dX1_clearMarks_18 : decode cX1_clearMarks 18 = .ok (.iinc 1 1, 3) := by decide +kernel
theorem dX1_clearMarks_21 : decode cX1_clearMarks 21 = .ok (.goto (-19), 3) := by decide +kernel
theorem dX1_clearMarks_24 : decode cX1_clearMarks 24 = .ok (.return_, 1) := by decide +kernel
theorem dX1_marksAt_0 : decode cX1_marksAt 0 = .ok (.aload_n 0, 1) := by decide +kernel
theorem dX1_marksAt_1 : decode cX1_marksAt 1 = .ok (.iload_n 1, 1) := by decide +kernel
theorem dX1_marksAt_2 : decode cX1_marksAt 2 = .ok (.invokevirtual 43, 3) := by decide +kernel
theorem dX1_marksAt_5 : decode cX1_marksAt 5 = .ok (.ifCond .eq 12, 3) := by decide +kernel
theorem dX1_marksAt_8 : decode cX1_marksAt 8 = .ok (.aload_n 0, 1) := by decide +kernel
theorem dX1_marksAt_9 : decode cX1_marksAt 9 = .ok (.getfield 36, 3) := by decide +kernel
theorem dX1_marksAt_12 : decode cX1_marksAt 12 = .ok (.iload_n 1, 1) := by decide +kernel
theorem dX1_marksAt_13 : decode cX1_marksAt 13 = .ok (.iaload, 1) := by decide +kernel
theorem dX1_marksAt_14 : decode cX1_marksAt 14 = .ok (.goto 4, 3) := by decide +kernel
theorem dX1_marksAt_17 : decode cX1_marksAt 17 = .ok (.iconst 0, 1) := by decide +kernel
theorem dX1_marksAt_18 : decode cX1_marksAt 18 = .ok (.ireturn, 1) := by decide +kernel
theorem dX1_mark_0 : decode cX1_mark 0 = .ok (.aload_n 0, 1) := by decide +kernel
theorem dX1_mark_1 : decode cX1_mark 1 = .ok (.iload_n 1, 1) := by decide +kernel
theorem dX1_mark_2 : decode cX1_mark 2 = .ok (.invokevirtual 43, 3) := by decide +kernel
theorem dX1_mark_5 : decode cX1_mark 5 = .ok (.ifCond .eq 13, 3) := by decide +kernel
theorem dX1_mark_8 : decode cX1_mark 8 = .ok (.aload_n 0, 1) := by decide +kernel
theorem dX1_mark_9 : decode cX1_mark 9 = .ok (.getfield 36, 3) := by decide +kernel
theorem dX1_mark_12 : decode cX1_mark 12 = .ok (.iload_n 1, 1) := by decide +kernel
theorem dX1_mark_13 : decode cX1_mark 13 = .ok (.dup2, 1) := by decide +kernel
theorem dX1_mark_14 : decode cX1_mark 14 = .ok (.iaload, 1) := by decide +kernel
theorem dX1_mark_15 : decode cX1_mark 15 = .ok (.iload_n 2, 1) := by decide +kernel
theorem dX1_mark_16 : decode cX1_mark 16 = .ok (.ior, 1) := by decide +kernel
theorem dX1_mark_17 : decode cX1_mark 17 = .ok (.iastore, 1) := by decide +kernel
theorem dX1_mark_18 : decode cX1_mark 18 = .ok (.return_, 1) := by decide +kernel
theorem dX1_markParents_0 : decode cX1_markParents 0 = .ok (.aload_n 0, 1) := by decide +kernel
theorem dX1_markParents_1 : decode cX1_markParents 1 = .ok (.aload_n 0, 1) := by decide +kernel
theorem dX1_markParents_2 : decode cX1_markParents 2 = .ok (.iload_n 1, 1) := by decide +kernel
theorem dX1_markParents_3 : decode cX1_markParents 3 = .ok (.invokevirtual 73, 3) := by decide +kernel
theorem dX1_markParents_6 : decode cX1_markParents 6 = .ok (.aload_n 0, 1) := by decide +kernel
theorem dX1_markParents_7 : decode cX1_markParents 7 = .ok (.iload_n 1, 1) := by decide +kernel
theorem dX1_markParents_8 : decode cX1_markParents 8 = .ok (.invokevirtual 106, 3) := by decide +kernel
theorem dX1_markParents_11 : decode cX1_markParents 11 = .ok (.invokevirtual 98, 3) := by decide +kernel
theorem dX1_markParents_14 : decode cX1_markParents 14 = .ok (.aload_n 0, 1) := by decide +kernel
theorem dX1_markParents_15 : decode cX1_markParents 15 = .ok (.aload_n 0, 1) := by decide +kernel
theorem dX1_markParents_16 : decode cX1_markParents 16 = .ok (.iload_n 1, 1) := by decide +kernel
theorem dX1_markParents_17 : decode cX1_markParents 17 = .ok (.invokevirtual 76, 3) := by decide +kernel
theorem dX1_markParents_20 : decode cX1_markParents 20 = .ok (.aload_n 0, 1) := by decide +kernel
theorem dX1_markParents_21 : decode cX1_markParents 21 = .ok (.iload_n 1, 1) := by decide +kernel
theorem dX1_markParents_22 : decode cX1_markParents 22 = .ok (.invokevirtual 106, 3) := by decide +kernel
theorem dX1_markParents_25 : decode cX1_markParents 25 = .ok (.invokevirtual 98, 3) := by decide +kernel
theorem dX1_markParents_28 : decode cX1_markParents 28 = .ok (.return_, 1) := by decide +kernel
theorem dX1_lastChangeAt_0 : decode cX1_lastChangeAt 0 = .ok (.iload_n 2, 1) := by decide +kernel
theorem dX1_lastChangeAt_1 : decode cX1_lastChangeAt 1 = .ok (.istore_n 3, 1) := by decide +kernel
theorem dX1_lastChangeAt_2 : decode cX1_lastChangeAt 2 = .ok (.iconst 0, 1) := by decide +kernel
theorem dX1_lastChangeAt_3 : decode cX1_lastChangeAt 3 = .ok (.istore 4, 2) := by decide +kernel
theorem dX1_lastChangeAt_5 : decode cX1_lastChangeAt 5 = .ok (.iload 4, 2) := by decide +kernel
theorem dX1_lastChangeAt_7 : decode cX1_lastChangeAt 7 = .ok (.bipush 60, 2) := by decide +kernel
theorem dX1_lastChangeAt_9 : decode cX1_lastChangeAt 9 = .ok (.if_icmp .ge 52, 3) := by decide +kernel
theorem dX1_lastChangeAt_12 : decode cX1_lastChangeAt 12 = .ok (.aload_n 0, 1) := by decide +kernel
theorem dX1_lastChangeAt_13 : decode cX1_lastChangeAt 13 = .ok (.iload_n 3, 1) := by decide +kernel
theorem dX1_lastChangeAt_14 : decode cX1_lastChangeAt 14 = .ok (.invokevirtual 73, 3) := by decide +kernel
theorem dX1_lastChangeAt_17 : decode cX1_lastChangeAt 17 = .ok (.iconst (-1), 1) := by decide +kernel
theorem dX1_lastChangeAt_18 : decode cX1_lastChangeAt 18 = .ok (.if_icmp .eq 43, 3) := by decide +kernel
theorem dX1_lastChangeAt_21 : decode cX1_lastChangeAt 21 = .ok (.aload_n 0, 1) := by decide +kernel
theorem dX1_lastChangeAt_22 : decode cX1_lastChangeAt 22 = .ok (.iload_n 3, 1) := by decide +kernel
theorem dX1_lastChangeAt_23 : decode cX1_lastChangeAt 23 = .ok (.invokevirtual 73, 3) := by decide +kernel
theorem dX1_lastChangeAt_26 : decode cX1_lastChangeAt 26 = .ok (.istore 5, 2) := by decide +kernel
theorem dX1_lastChangeAt_28 : decode cX1_lastChangeAt 28 = .ok (.aload_n 0, 1) := by decide +kernel
theorem dX1_lastChangeAt_29 : decode cX1_lastChangeAt 29 = .ok (.iload_n 3, 1) := by decide +kernel
theorem dX1_lastChangeAt_30 : decode cX1_lastChangeAt 30 = .ok (.invokevirtual 51, 3) := by decide +kernel
theorem dX1_lastChangeAt_33 : decode cX1_lastChangeAt 33 = .ok (.iload_n 1, 1) := by decide +kernel
theorem dX1_lastChangeAt_34 : decode cX1_lastChangeAt 34 = .ok (.invokevirtual 109, 3) := by decide +kernel
theorem dX1_lastChangeAt_37 : decode cX1_lastChangeAt 37 = .ok (.aload_n 0, 1) := by decide +kernel
theorem dX1_lastChangeAt_38 : decode cX1_lastChangeAt 38 = .ok (.iload 5, 2) := by decide +kernel
theorem dX1_lastChangeAt_40 : decode cX1_lastChangeAt 40 = .ok (.invokevirtual 51, 3) := by decide +kernel
theorem dX1_lastChangeAt_43 : decode cX1_lastChangeAt 43 = .ok (.iload_n 1, 1) := by decide +kernel
theorem dX1_lastChangeAt_44 : decode cX1_lastChangeAt 44 = .ok (.invokevirtual 109, 3) := by decide +kernel
theorem dX1_lastChangeAt_47 : decode cX1_lastChangeAt 47 = .ok (.if_icmp .eq 5, 3) := by decide +kernel
theorem dX1_lastChangeAt_50 : decode cX1_lastChangeAt 50 = .ok (.iload_n 3, 1) := by decide +kernel
theorem dX1_lastChangeAt_51 : decode cX1_lastChangeAt 51 = .ok (.ireturn, 1) := by decide +kernel
theorem dX1_lastChangeAt_52 : decode cX1_lastChangeAt 52 = .ok (.iload 5, 2) := by decide +kernel
theorem dX1_lastChangeAt_54 : decode cX1_lastChangeAt 54 = .ok (.istore_n 3, 1) := by decide +kernel
theorem dX1_lastChangeAt_55 : decode cX1_lastChangeAt 55 = .ok (.iinc 4 1, 3) := by decide +kernel
theorem dX1_lastChangeAt_58 : decode cX1_lastChangeAt 58 = .ok (.goto (-53), 3) := by decide +kernel
theorem dX1_lastChangeAt_61 : decode cX1_lastChangeAt 61 = .ok (.iconst (-1), 1) := by decide +kernel
theorem dX1_lastChangeAt_62 : decode cX1_lastChangeAt 62 = .ok (.ireturn, 1) := by decide +kernel
theorem dX1_sumOfFiles_0 : decode cX1_sumOfFiles 0 = .ok (.iconst 0, 1) := by decide +kernel
theorem dX1_sumOfFiles_1 : decode cX1_sumOfFiles 1 = .ok (.istore_n 1, 1) := by decide +kernel
theorem dX1_sumOfFiles_2 : decode cX1_sumOfFiles 2 = .ok (.iconst 0, 1) := by decide +kernel
theorem dX1_sumOfFiles_3 : decode cX1_sumOfFiles 3 = .ok (.istore_n 2, 1) := by decide +kernel
theorem dX1_sumOfFiles_4 : decode cX1_sumOfFiles 4 = .ok (.iload_n 2, 1) := by decide +kernel
theorem dX1_sumOfFiles_5 : decode cX1_sumOfFiles 5 = .ok (.aload_n 0, 1) := by decide +kernel
theorem dX1_sumOfFiles_6 : decode cX1_sumOfFiles 6 = .ok (.getfield 39, 3) := by decide +kernel
theorem dX1_sumOfFiles_9 : decode cX1_sumOfFiles 9 = .ok (.if_icmp .ge 20, 3) := by decide +kernel
theorem dX1_sumOfFiles_12 : decode cX1_sumOfFiles 12 = .ok (.iload_n 1, 1) := by decide +kernel
theorem dX1_sumOfFiles_13 : decode cX1_sumOfFiles 13 = .ok (.aload_n 0, 1) := by decide +kernel
theorem dX1_sumOfFiles_14 : decode cX1_sumOfFiles 14 = .ok (.iload_n 2, 1) := by decide +kernel
theorem dX1_sumOfFiles_15 : decode cX1_sumOfFiles 15 = .ok (.invokevirtual 51, 3) := by decide +kernel
theorem dX1_sumOfFiles_18 : decode cX1_sumOfFiles 18 = .ok (.invokevirtual 112, 3) := by decide +kernel
theorem dX1_sumOfFiles_21 : decode cX1_sumOfFiles 21 = .ok (.iadd, 1) := by decide +kernel
theorem dX1_sumOfFiles_22 : decode cX1_sumOfFiles 22 = .ok (.istore_n 1, 1) := by decide +kernel
theorem dX1_sumOfFiles_23 : decode cX1_sumOfFiles 23 = .ok (.iinc 2 1, 3) := by decide +kernel
theorem dX1_sumOfFiles_26 : decode cX1_sumOfFiles 26 = .ok (.goto (-22), 3) := by decide +kernel
theorem dX1_sumOfFiles_29 : decode cX1_sumOfFiles 29 = .ok (.iload_n 1, 1) := by decide +kernel
theorem dX1_sumOfFiles_30 : decode cX1_sumOfFiles 30 = .ok (.ireturn, 1) := by decide +kernel
theorem dX2_likeness_0 : decode cX2_likeness 0 = .ok (.iconst 0, 1) := by decide +kernel
theorem dX2_likeness_1 : decode cX2_likeness 1 = .ok (.istore_n 2, 1) := by decide +kernel
theorem dX2_likeness_2 : decode cX2_likeness 2 = .ok (.iload_n 0, 1) := by decide +kernel
theorem dX2_likeness_3 : decode cX2_likeness 3 = .ok (.istore_n 3, 1) := by decide +kernel
theorem dX2_likeness_4 : decode cX2_likeness 4 = .ok (.iload_n 1, 1) := by decide +kernel
theorem dX2_likeness_5 : decode cX2_likeness 5 = .ok (.istore 4, 2) := by decide +kernel
theorem dX2_likeness_7 : decode cX2_likeness 7 = .ok (.iconst 0, 1) := by decide +kernel
theorem dX2_likeness_8 : decode cX2_likeness 8 = .ok (.istore 5, 2) := by decide +kernel
theorem dX2_likeness_10 : decode cX2_likeness 10 = .ok (.iload 5, 2) := by decide +kernel
theorem dX2_likeness_12 : decode cX2_likeness 12 = .ok (.iconst 4, 1) := by decide +kernel
theorem dX2_likeness_13 : decode cX2_likeness 13 = .ok (.if_icmp .ge 36, 3) := by decide +kernel
theorem dX2_likeness_16 : decode cX2_likeness 16 = .ok (.iload_n 3, 1) := by decide +kernel
theorem dX2_likeness_17 : decode cX2_likeness 17 = .ok (.bipush 10, 2) := by decide +kernel
theorem dX2_likeness_19 : decode cX2_likeness 19 = .ok (.irem, 1) := by decide +kernel
theorem dX2_likeness_20 : decode cX2_likeness 20 = .ok (.iload 4, 2) := by decide +kernel
theorem dX2_likeness_22 : decode cX2_likeness 22 = .ok (.bipush 10, 2) := by decide +kernel
theorem dX2_likeness_24 : decode cX2_likeness 24 = .ok (.irem, 1) := by decide +kernel
theorem dX2_likeness_25 : decode cX2_likeness 25 = .ok (.if_icmp .ne 6, 3) := by decide +kernel
theorem dX2_likeness_28 : decode cX2_likeness 28 = .ok (.iinc 2 1, 3) := by decide +kernel
theorem dX2_likeness_31 : decode cX2_likeness 31 = .ok (.iload_n 3, 1) := by decide +kernel
theorem dX2_likeness_32 : decode cX2_likeness 32 = .ok (.bipush 10, 2) := by decide +kernel
theorem dX2_likeness_34 : decode cX2_likeness 34 = .ok (.idiv, 1) := by decide +kernel
theorem dX2_likeness_35 : decode cX2_likeness 35 = .ok (.istore_n 3, 1) := by decide +kernel
theorem dX2_likeness_36 : decode cX2_likeness 36 = .ok (.iload 4, 2) := by decide +kernel
theorem dX2_likeness_38 : decode cX2_likeness 38 = .ok (.bipush 10, 2) := by decide +kernel
theorem dX2_likeness_40 : decode cX2_likeness 40 = .ok (.idiv, 1) := by decide +kernel
theorem dX2_likeness_41 : decode cX2_likeness 41 = .ok (.istore 4, 2) := by decide +kernel
theorem dX2_likeness_43 : decode cX2_likeness 43 = .ok (.iinc 5 1, 3) := by decide +kernel
theorem dX2_likeness_46 : decode cX2_likeness 46 = .ok (.goto (-36), 3) := by decide +kernel
theorem dX2_likeness_49 : decode cX2_likeness 49 = .ok (.iload_n 2, 1) := by decide +kernel
theorem dX2_likeness_50 : decode cX2_likeness 50 = .ok (.ireturn, 1) := by decide +kernel
theorem dX2_changed_0 : decode cX2_changed 0 = .ok (.iload_n 1, 1) := by decide +kernel
theorem dX2_changed_1 : decode cX2_changed 1 = .ok (.iload_n 0, 1) := by decide +kernel
theorem dX2_changed_2 : decode cX2_changed 2 = .ok (.if_icmp .ne 5, 3) := by decide +kernel
theorem dX2_changed_5 : decode cX2_changed 5 = .ok (.iload_n 2, 1) := by decide +kernel
theorem dX2_changed_6 : decode cX2_changed 6 = .ok (.ireturn, 1) := by decide +kernel
theorem dX2_changed_7 : decode cX2_changed 7 = .ok (.iload_n 2, 1) := by decide +kernel
theorem dX2_changed_8 : decode cX2_changed 8 = .ok (.iload_n 0, 1) := by decide +kernel
theorem dX2_changed_9 : decode cX2_changed 9 = .ok (.if_icmp .eq 8, 3) := by decide +kernel
theorem dX2_changed_12 : decode cX2_changed 12 = .ok (.iload_n 2, 1) := by decide +kernel
theorem dX2_changed_13 : decode cX2_changed 13 = .ok (.iload_n 1, 1) := by decide +kernel
theorem dX2_changed_14 : decode cX2_changed 14 = .ok (.if_icmp .ne 7, 3) := by decide +kernel
theorem dX2_changed_17 : decode cX2_changed 17 = .ok (.iload_n 1, 1) := by decide +kernel
theorem dX2_changed_18 : decode cX2_changed 18 = .ok (.goto 4, 3) := by decide +kernel
theorem dX2_changed_21 : decode cX2_changed 21 = .ok (.iconst (-1), 1) := by decide +kernel
theorem dX2_changed_22 : decode cX2_changed 22 = .ok (.ireturn, 1) := by decide +kernel
theorem dX2_mergeContents_0 : decode cX2_mergeContents 0 = .ok (.iload_n 0, 1) := by decide +kernel
theorem dX2_mergeContents_1 : decode cX2_mergeContents 1 = .ok (.istore_n 3, 1) := by decide +kernel
theorem dX2_mergeContents_2 : decode cX2_mergeContents 2 = .ok (.iload_n 1, 1) := by decide +kernel
theorem dX2_mergeContents_3 : decode cX2_mergeContents 3 = .ok (.istore 4, 2) := by decide +kernel
theorem dX2_mergeContents_5 : decode cX2_mergeContents 5 = .ok (.iload_n 2, 1) := by decide +kernel
theorem dX2_mergeContents_6 : decode cX2_mergeContents 6 = .ok (.istore 5, 2) := by decide +kernel
theorem dX2_mergeContents_8 : decode cX2_mergeContents 8 = .ok (.iconst 0, 1) := by decide +kernel
theorem dX2_mergeContents_9 : decode cX2_mergeContents 9 = .ok (.istore 6, 2) := by decide +kernel
theorem dX2_mergeContents_11 : decode cX2_mergeContents 11 = .ok (.iconst 1, 1) := by decide +kernel
theorem dX2_mergeContents_12 : decode cX2_mergeContents 12 = .ok (.istore 7, 2) := by decide +kernel
theorem dX2_mergeContents_14 : decode cX2_mergeContents 14 = .ok (.iconst 0, 1) := by decide +kernel
theorem dX2_mergeContents_15 : decode cX2_mergeContents 15 = .ok (.istore 8, 2) := by decide +kernel
theorem dX2_mergeContents_17 : decode cX2_mergeContents 17 = .ok (.iload 8, 2) := by decide +kernel
theorem dX2_mergeContents_19 : decode cX2_mergeContents 19 = .ok (.iconst 4, 1) := by decide +kernel
theorem dX2_mergeContents_20 : decode cX2_mergeContents 20 = .ok (.if_icmp .ge 72, 3) := by decide +kernel
theorem dX2_mergeContents_23 : decode cX2_mergeContents 23 = .ok (.iload_n 3, 1) := by decide +kernel
theorem dX2_mergeContents_24 : decode cX2_mergeContents 24 = .ok (.bipush 10, 2) := by decide +kernel
theorem dX2_mergeContents_26 : decode cX2_mergeContents 26 = .ok (.irem, 1) := by decide +kernel
theorem dX2_mergeContents_27 : decode cX2_mergeContents 27 = .ok (.iload 4, 2) := by decide +kernel
theorem dX2_mergeContents_29 : decode cX2_mergeContents 29 = .ok (.bipush 10, 2) := by decide +kernel
theorem dX2_mergeContents_31 : decode cX2_mergeContents 31 = .ok (.irem, 1) := by decide +kernel
theorem dX2_mergeContents_32 : decode cX2_mergeContents 32 = .ok (.iload 5, 2) := by decide +kernel
theorem dX2_mergeContents_34 : decode cX2_mergeContents 34 = .ok (.bipush 10, 2) := by decide +kernel
theorem dX2_mergeContents_36 : decode cX2_mergeContents 36 = .ok (.irem, 1) := by decide +kernel
theorem dX2_mergeContents_37 : decode cX2_mergeContents 37 = .ok (.invokestatic 9, 3) := by decide +kernel
theorem dX2_mergeContents_40 : decode cX2_mergeContents 40 = .ok (.istore 9, 2) := by decide +kernel
theorem dX2_mergeContents_42 : decode cX2_mergeContents 42 = .ok (.iload 9, 2) := by decide +kernel
theorem dX2_mergeContents_44 : decode cX2_mergeContents 44 = .ok (.iconst (-1), 1) := by decide +kernel
theorem dX2_mergeContents_45 : decode cX2_mergeContents 45 = .ok (.if_icmp .ne 5, 3) := by decide +kernel
theorem dX2_mergeContents_48 : decode cX2_mergeContents 48 = .ok (.iconst (-1), 1) := by decide +kernel
theorem dX2_mergeContents_49 : decode cX2_mergeContents 49 = .ok (.ireturn, 1) := by decide +kernel
theorem dX2_mergeContents_50 : decode cX2_mergeContents 50 = .ok (.iload 6, 2) := by decide +kernel
theorem dX2_mergeContents_52 : decode cX2_mergeContents 52 = .ok (.iload 9, 2) := by decide +kernel
theorem dX2_mergeContents_54 : decode cX2_mergeContents 54 = .ok (.iload 7, 2) := by decide +kernel
theorem dX2_mergeContents_56 : decode cX2_mergeContents 56 = .ok (.imul, 1) := by decide +kernel
theorem dX2_mergeContents_57 : decode cX2_mergeContents 57 = .ok (.iadd, 1) := by decide +kernel
theorem dX2_mergeContents_58 : decode cX2_mergeContents 58 = .ok (.istore 6, 2) := by decide +kernel
theorem dX2_mergeContents_60 : decode cX2_mergeContents 60 = .ok (.iload 7, 2) := by decide +kernel
theorem dX2_mergeContents_62 : decode cX2_mergeContents 62 = .ok (.bipush 10, 2) := by decide +kernel
theorem dX2_mergeContents_64 : decode cX2_mergeContents 64 = .ok (.imul, 1) := by decide +kernel
theorem dX2_mergeContents_65 : decode cX2_mergeContents 65 = .ok (.istore 7, 2) := by decide +kernel
theorem dX2_mergeContents_67 : decode cX2_mergeContents 67 = .ok (.iload_n 3, 1) := by decide +kernel
theorem dX2_mergeContents_68 : decode cX2_mergeContents 68 = .ok (.bipush 10, 2) := by decide +kernel
theorem dX2_mergeContents_70 : decode cX2_mergeContents 70 = .ok (.idiv, 1) := by decide +kernel
theorem dX2_mergeContents_71 : decode cX2_mergeContents 71 = .ok (.istore_n 3, 1) := by decide +kernel
theorem dX2_mergeContents_72 : decode cX2_mergeContents 72 = .ok (.iload 4, 2) := by decide +kernel
theorem dX2_mergeContents_74 : decode cX2_mergeContents 74 = .ok (.bipush 10, 2) := by decide +kernel
theorem dX2_mergeContents_76 : decode cX2_mergeContents 76 = .ok (.idiv, 1) := by decide +kernel
theorem dX2_mergeContents_77 : decode cX2_mergeContents 77 = .ok (.istore 4, 2) := by decide +kernel
theorem dX2_mergeContents_79 : decode cX2_mergeContents 79 = .ok (.iload 5, 2) := by decide +kernel
theorem dX2_mergeContents_81 : decode cX2_mergeContents 81 = .ok (.bipush 10, 2) := by decide +kernel
theorem dX2_mergeContents_83 : decode cX2_mergeContents 83 = .ok (.idiv, 1) := by decide +kernel
theorem dX2_mergeContents_84 : decode cX2_mergeContents 84 = .ok (.istore 5, 2) := by decide +kernel
theorem dX2_mergeContents_86 : decode cX2_mergeContents 86 = .ok (.iinc 8 1, 3) := by decide +kernel
theorem dX2_mergeContents_89 : decode cX2_mergeContents 89 = .ok (.goto (-72), 3) := by decide +kernel
theorem dX2_mergeContents_92 : decode cX2_mergeContents 92 = .ok (.iload 6, 2) := by decide +kernel
theorem dX2_mergeContents_94 : decode cX2_mergeContents 94 = .ok (.ireturn, 1) := by decide +kernel
theorem dX3_init_0 : decode cX3_init 0 = .ok (.aload_n 0, 1) := by decide +kernel
theorem dX3_init_1 : decode cX3_init 1 = .ok (.invokespecial 3, 3) := by decide +kernel
theorem dX3_init_4 : decode cX3_init 4 = .ok (.aload_n 0, 1) := by decide +kernel
theorem dX3_init_5 : decode cX3_init 5 = .ok (.sipush 480, 3) := by decide +kernel
theorem dX3_init_8 : decode cX3_init 8 = .ok (.newarray .int, 2) := by decide +kernel
theorem dX3_init_10 : decode cX3_init 10 = .ok (.putfield 9, 3) := by decide +kernel
theorem dX3_init_13 : decode cX3_init 13 = .ok (.aload_n 0, 1) := by decide +kernel
theorem dX3_init_14 : decode cX3_init 14 = .ok (.sipush 480, 3) := by decide +kernel
theorem dX3_init_17 : decode cX3_init 17 = .ok (.newarray .int, 2) := by decide +kernel
theorem dX3_init_19 : decode cX3_init 19 = .ok (.putfield 15, 3) := by decide +kernel
theorem dX3_init_22 : decode cX3_init 22 = .ok (.aload_n 0, 1) := by decide +kernel
theorem dX3_init_23 : decode cX3_init 23 = .ok (.sipush 480, 3) := by decide +kernel
theorem dX3_init_26 : decode cX3_init 26 = .ok (.newarray .int, 2) := by decide +kernel
theorem dX3_init_28 : decode cX3_init 28 = .ok (.putfield 18, 3) := by decide +kernel
theorem dX3_init_31 : decode cX3_init 31 = .ok (.return_, 1) := by decide +kernel
theorem dX3_size_0 : decode cX3_size 0 = .ok (.aload_n 0, 1) := by decide +kernel
theorem dX3_size_1 : decode cX3_size 1 = .ok (.getfield 21, 3) := by decide +kernel
theorem dX3_size_4 : decode cX3_size 4 = .ok (.ireturn, 1) := by decide +kernel
theorem dX3_sumOfSizes_0 : decode cX3_sumOfSizes 0 = .ok (.aload_n 0, 1) := by decide +kernel
theorem dX3_sumOfSizes_1 : decode cX3_sumOfSizes 1 = .ok (.getfield 25, 3) := by decide +kernel
theorem dX3_sumOfSizes_4 : decode cX3_sumOfSizes 4 = .ok (.lreturn, 1) := by decide +kernel
theorem dX3_hasPlace_0 : decode cX3_hasPlace 0 = .ok (.iload_n 1, 1) := by decide +kernel
theorem dX3_hasPlace_1 : decode cX3_hasPlace 1 = .ok (.ifCond .lt 15, 3) := by decide +kernel
theorem dX3_hasPlace_4 : decode cX3_hasPlace 4 = .ok (.iload_n 1, 1) := by decide +kernel
theorem dX3_hasPlace_5 : decode cX3_hasPlace 5 = .ok (.aload_n 0, 1) := by decide +kernel
theorem dX3_hasPlace_6 : decode cX3_hasPlace 6 = .ok (.getfield 21, 3) := by decide +kernel
theorem dX3_hasPlace_9 : decode cX3_hasPlace 9 = .ok (.if_icmp .ge 7, 3) := by decide +kernel
theorem dX3_hasPlace_12 : decode cX3_hasPlace 12 = .ok (.iconst 1, 1) := by decide +kernel
theorem dX3_hasPlace_13 : decode cX3_hasPlace 13 = .ok (.goto 4, 3) := by decide +kernel
theorem dX3_hasPlace_16 : decode cX3_hasPlace 16 = .ok (.iconst 0, 1) := by decide +kernel
theorem dX3_hasPlace_17 : decode cX3_hasPlace 17 = .ok (.ireturn, 1) := by decide +kernel
theorem dX3_find_0 : decode cX3_find 0 = .ok (.iconst 0, 1) := by decide +kernel
theorem dX3_find_1 : decode cX3_find 1 = .ok (.istore_n 2, 1) := by decide +kernel
theorem dX3_find_2 : decode cX3_find 2 = .ok (.iload_n 2, 1) := by decide +kernel
theorem dX3_find_3 : decode cX3_find 3 = .ok (.aload_n 0, 1) := by decide +kernel
theorem dX3_find_4 : decode cX3_find 4 = .ok (.getfield 21, 3) := by decide +kernel
theorem dX3_find_7 : decode cX3_find 7 = .ok (.if_icmp .ge 21, 3) := by decide +kernel
theorem dX3_find_10 : decode cX3_find 10 = .ok (.aload_n 0, 1) := by decide +kernel
theorem dX3_find_11 : decode cX3_find 11 = .ok (.getfield 9, 3) := by decide +kernel
theorem dX3_find_14 : decode cX3_find 14 = .ok (.iload_n 2, 1) := by decide +kernel
theorem dX3_find_15 : decode cX3_find 15 = .ok (.iaload, 1) := by decide +kernel
theorem dX3_find_16 : decode cX3_find 16 = .ok (.iload_n 1, 1) := by decide +kernel
theorem dX3_find_17 : decode cX3_find 17 = .ok (.if_icmp .ne 5, 3) := by decide +kernel
theorem dX3_find_20 : decode cX3_find 20 = .ok (.iload_n 2, 1) := by decide +kernel
theorem dX3_find_21 : decode cX3_find 21 = .ok (.ireturn, 1) := by decide +kernel
theorem dX3_find_22 : decode cX3_find 22 = .ok (.iinc 2 1, 3) := by decide +kernel
theorem dX3_find_25 : decode cX3_find 25 = .ok (.goto (-23), 3) := by decide +kernel
theorem dX3_find_28 : decode cX3_find 28 = .ok (.iconst (-1), 1) := by decide +kernel
theorem dX3_find_29 : decode cX3_find 29 = .ok (.ireturn, 1) := by decide +kernel
theorem dX3_depthAt_0 : decode cX3_depthAt 0 = .ok (.aload_n 0, 1) := by decide +kernel
theorem dX3_depthAt_1 : decode cX3_depthAt 1 = .ok (.iload_n 1, 1) := by decide +kernel
theorem dX3_depthAt_2 : decode cX3_depthAt 2 = .ok (.invokevirtual 29, 3) := by decide +kernel
theorem dX3_depthAt_5 : decode cX3_depthAt 5 = .ok (.ifCond .eq 12, 3) := by decide +kernel
theorem dX3_depthAt_8 : decode cX3_depthAt 8 = .ok (.aload_n 0, 1) := by decide +kernel
theorem dX3_depthAt_9 : decode cX3_depthAt 9 = .ok (.getfield 18, 3) := by decide +kernel
theorem dX3_depthAt_12 : decode cX3_depthAt 12 = .ok (.iload_n 1, 1) := by decide +kernel
theorem dX3_depthAt_13 : decode cX3_depthAt 13 = .ok (.iaload, 1) := by decide +kernel
theorem dX3_depthAt_14 : decode cX3_depthAt 14 = .ok (.goto 4, 3) := by decide +kernel
theorem dX3_depthAt_17 : decode cX3_depthAt 17 = .ok (.iconst (-1), 1) := by decide +kernel
theorem dX3_depthAt_18 : decode cX3_depthAt 18 = .ok (.ireturn, 1) := by decide +kernel
theorem dX3_sourceAt_0 : decode cX3_sourceAt 0 = .ok (.aload_n 0, 1) := by decide +kernel
theorem dX3_sourceAt_1 : decode cX3_sourceAt 1 = .ok (.iload_n 1, 1) := by decide +kernel
theorem dX3_sourceAt_2 : decode cX3_sourceAt 2 = .ok (.invokevirtual 29, 3) := by decide +kernel
theorem dX3_sourceAt_5 : decode cX3_sourceAt 5 = .ok (.ifCond .eq 12, 3) := by decide +kernel
theorem dX3_sourceAt_8 : decode cX3_sourceAt 8 = .ok (.aload_n 0, 1) := by decide +kernel
theorem dX3_sourceAt_9 : decode cX3_sourceAt 9 = .ok (.getfield 15, 3) := by decide +kernel
theorem dX3_sourceAt_12 : decode cX3_sourceAt 12 = .ok (.iload_n 1, 1) := by decide +kernel
theorem dX3_sourceAt_13 : decode cX3_sourceAt 13 = .ok (.iaload, 1) := by decide +kernel
theorem dX3_sourceAt_14 : decode cX3_sourceAt 14 = .ok (.goto 4, 3) := by decide +kernel
theorem dX3_sourceAt_17 : decode cX3_sourceAt 17 = .ok (.iconst (-1), 1) := by decide +kernel
theorem dX3_sourceAt_18 : decode cX3_sourceAt 18 = .ok (.ireturn, 1) := by decide +kernel
theorem dX3_catchUpWith_0 : decode cX3_catchUpWith 0 = .ok (.aload_n 0, 1) := by decide +kernel
theorem dX3_catchUpWith_1 : decode cX3_catchUpWith 1 = .ok (.getfield 33, 3) := by decide +kernel
theorem dX3_catchUpWith_4 : decode cX3_catchUpWith 4 = .ok (.aload_n 1, 1) := by decide +kernel
theorem dX3_catchUpWith_5 : decode cX3_catchUpWith 5 = .ok (.invokevirtual 36, 3) := by decide +kernel
theorem dX3_catchUpWith_8 : decode cX3_catchUpWith 8 = .ok (.if_icmp .ge 48, 3) := by decide +kernel
theorem dX3_catchUpWith_11 : decode cX3_catchUpWith 11 = .ok (.aload_n 1, 1) := by decide +kernel
theorem dX3_catchUpWith_12 : decode cX3_catchUpWith 12 = .ok (.aload_n 0, 1) := by decide +kernel
theorem dX3_catchUpWith_13 : decode cX3_catchUpWith 13 = .ok (.getfield 33, 3) := by decide +kernel
theorem dX3_catchUpWith_16 : decode cX3_catchUpWith 16 = .ok (.invokevirtual 42, 3) := by decide +kernel
theorem dX3_catchUpWith_19 : decode cX3_catchUpWith 19 = .ok (.astore_n 2, 1) := by decide +kernel
theorem dX3_catchUpWith_20 : decode cX3_catchUpWith 20 = .ok (.iconst 0, 1) := by decide +kernel
theorem dX3_catchUpWith_21 : decode cX3_catchUpWith 21 = .ok (.istore_n 3, 1) := by decide +kernel
theorem dX3_catchUpWith_22 : decode cX3_catchUpWith 22 = .ok (.iload_n 3, 1) := by decide +kernel
theorem dX3_catchUpWith_23 : decode cX3_catchUpWith 23 = .ok (.bipush 8, 2) := by decide +kernel
theorem dX3_catchUpWith_25 : decode cX3_catchUpWith 25 = .ok (.if_icmp .ge 18, 3) := by decide +kernel
theorem dX3_catchUpWith_28 : decode cX3_catchUpWith 28 = .ok (.aload_n 0, 1) := by decide +kernel
theorem dX3_catchUpWith_29 : decode cX3_catchUpWith 29 = .ok (.aload_n 2, 1) := by decide +kernel
theorem dX3_catchUpWith_30 : decode cX3_catchUpWith 30 = .ok (.iload_n 3, 1) := by decide +kernel
theorem dX3_catchUpWith_31 : decode cX3_catchUpWith 31 = .ok (.invokevirtual 46, 3) := by decide +kernel
theorem dX3_catchUpWith_34 : decode cX3_catchUpWith 34 = .ok (.invokevirtual 52, 3) := by decide +kernel
theorem dX3_catchUpWith_37 : decode cX3_catchUpWith 37 = .ok (.iinc 3 1, 3) := by decide +kernel
theorem dX3_catchUpWith_40 : decode cX3_catchUpWith 40 = .ok (.goto (-18), 3) := by decide +kernel
theorem dX3_catchUpWith_43 : decode cX3_catchUpWith 43 = .ok (.aload_n 0, 1) := by decide +kernel
theorem dX3_catchUpWith_44 : decode cX3_catchUpWith 44 = .ok (.dup, 1) := by decide +kernel
theorem dX3_catchUpWith_45 : decode cX3_catchUpWith 45 = .ok (.getfield 33, 3) := by decide +kernel
theorem dX3_catchUpWith_48 : decode cX3_catchUpWith 48 = .ok (.iconst 1, 1) := by decide +kernel
theorem dX3_catchUpWith_49 : decode cX3_catchUpWith 49 = .ok (.iadd, 1) := by decide +kernel
theorem dX3_catchUpWith_50 : decode cX3_catchUpWith 50 = .ok (.putfield 33, 3) := by decide +kernel
theorem dX3_catchUpWith_53 : decode cX3_catchUpWith 53 = .ok (.goto (-53), 3) := by decide +kernel
theorem dX3_catchUpWith_56 : decode cX3_catchUpWith 56 = .ok (.return_, 1) := by decide +kernel
theorem dX3_add_0 : decode cX3_add 0 = .ok (.iload_n 1, 1) := by decide +kernel
theorem dX3_add_1 : decode cX3_add 1 = .ok (.iconst (-1), 1) := by decide +kernel
theorem dX3_add_2 : decode cX3_add 2 = .ok (.if_icmp .eq 24, 3) := by decide +kernel
theorem dX3_add_5 : decode cX3_add 5 = .ok (.aload_n 0, 1) := by decide +kernel
theorem dX3_add_6 : decode cX3_add 6 = .ok (.iload_n 1, 1) := by decide +kernel
theorem dX3_add_7 : decode cX3_add 7 = .ok (.invokevirtual 56, 3) := by decide +kernel
theorem dX3_add_10 : decode cX3_add 10 = .ok (.iconst (-1), 1) := by decide +kernel
theorem dX3_add_11 : decode cX3_add 11 = .ok (.if_icmp .ne 15, 3) := by decide +kernel
theorem dX3_add_14 : decode cX3_add 14 = .ok (.aload_n 0, 1) := by decide +kernel
theorem dX3_add_15 : decode cX3_add 15 = .ok (.getfield 21, 3) := by decide +kernel
theorem dX3_add_18 : decode cX3_add 18 = .ok (.aload_n 0, 1) := by decide +kernel
theorem dX3_add_19 : decode cX3_add 19 = .ok (.getfield 9, 3) := by decide +kernel
theorem dX3_add_22 : decode cX3_add 22 = .ok (.arraylength, 1) := by decide +kernel
theorem dX3_add_23 : decode cX3_add 23 = .ok (.if_icmp .lt 4, 3) := by decide +kernel
theorem dX3_add_26 : decode cX3_add 26 = .ok (.return_, 1) := by decide +kernel
theorem dX3_add_27 : decode cX3_add 27 = .ok (.iconst (-1), 1) := by decide +kernel
theorem dX3_add_28 : decode cX3_add 28 = .ok (.istore_n 2, 1) := by decide +kernel
theorem dX3_add_29 : decode cX3_add 29 = .ok (.iconst 4, 1) := by decide +kernel
theorem dX3_add_30 : decode cX3_add 30 = .ok (.istore_n 3, 1) := by decide +kernel
theorem dX3_add_31 : decode cX3_add 31 = .ok (.iconst 0, 1) := by decide +kernel
theorem dX3_add_32 : decode cX3_add 32 = .ok (.istore 4, 2) := by decide +kernel
theorem dX3_add_34 : decode cX3_add 34 = .ok (.iload 4, 2) := by decide +kernel
theorem dX3_add_36 : decode cX3_add 36 = .ok (.aload_n 0, 1) := by decide +kernel
theorem dX3_add_37 : decode cX3_add 37 = .ok (.getfield 21, 3) := by decide +kernel
theorem dX3_add_40 : decode cX3_add 40 = .ok (.if_icmp .ge 47, 3) := by decide +kernel
theorem dX3_add_43 : decode cX3_add 43 = .ok (.iconst 5, 1) := by decide +kernel
theorem dX3_add_44 : decode cX3_add 44 = .ok (.aload_n 0, 1) := by decide +kernel
theorem dX3_add_45 : decode cX3_add 45 = .ok (.getfield 9, 3) := by decide +kernel
theorem dX3_add_48 : decode cX3_add 48 = .ok (.iload 4, 2) := by decide +kernel
theorem dX3_add_50 : decode cX3_add 50 = .ok (.iaload, 1) := by decide +kernel
theorem dX3_add_51 : decode cX3_add 51 = .ok (.iload_n 1, 1) := by decide +kernel
theorem dX3_add_52 : decode cX3_add 52 = .ok (.invokestatic 59, 3) := by decide +kernel
theorem dX3_add_55 : decode cX3_add 55 = .ok (.isub, 1) := by decide +kernel
theorem dX3_add_56 : decode cX3_add 56 = .ok (.istore 5, 2) := by decide +kernel
theorem dX3_add_58 : decode cX3_add 58 = .ok (.aload_n 0, 1) := by decide +kernel
theorem dX3_add_59 : decode cX3_add 59 = .ok (.getfield 18, 3) := by decide +kernel
theorem dX3_add_62 : decode cX3_add 62 = .ok (.iload 4, 2) := by decide +kernel
theorem dX3_add_64 : decode cX3_add 64 = .ok (.iaload, 1) := by decide +kernel
theorem dX3_add_65 : decode cX3_add 65 = .ok (.iconst 2, 1) := by decide +kernel
theorem dX3_add_66 : decode cX3_add 66 = .ok (.if_icmp .gt 15, 3) := by decide +kernel
theorem dX3_add_69 : decode cX3_add 69 = .ok (.iload 5, 2) := by decide +kernel
theorem dX3_add_71 : decode cX3_add 71 = .ok (.iload_n 3, 1) := by decide +kernel
theorem dX3_add_72 : decode cX3_add 72 = .ok (.if_icmp .ge 9, 3) := by decide +kernel
theorem dX3_add_75 : decode cX3_add 75 = .ok (.iload 4, 2) := by decide +kernel
theorem dX3_add_77 : decode cX3_add 77 = .ok (.istore_n 2, 1) := by decide +kernel
theorem dX3_add_78 : decode cX3_add 78 = .ok (.iload 5, 2) := by decide +kernel
theorem dX3_add_80 : decode cX3_add 80 = .ok (.istore_n 3, 1) := by decide +kernel
theorem dX3_add_81 : decode cX3_add 81 = .ok (.iinc 4 1, 3) := by decide +kernel
theorem dX3_add_84 : decode cX3_add 84 = .ok (.goto (-50), 3) := by decide +kernel
theorem dX3_add_87 : decode cX3_add 87 = .ok (.aload_n 0, 1) := by decide +kernel
theorem dX3_add_88 : decode cX3_add 88 = .ok (.getfield 9, 3) := by decide +kernel
theorem dX3_add_91 : decode cX3_add 91 = .ok (.aload_n 0, 1) := by decide +kernel
theorem dX3_add_92 : decode cX3_add 92 = .ok (.getfield 21, 3) := by decide +kernel
theorem dX3_add_95 : decode cX3_add 95 = .ok (.iload_n 1, 1) := by decide +kernel
theorem dX3_add_96 : decode cX3_add 96 = .ok (.iastore, 1) := by decide +kernel
theorem dX3_add_97 : decode cX3_add 97 = .ok (.aload_n 0, 1) := by decide +kernel
theorem dX3_add_98 : decode cX3_add 98 = .ok (.getfield 15, 3) := by decide +kernel
theorem dX3_add_101 : decode cX3_add 101 = .ok (.aload_n 0, 1) := by decide +kernel
theorem dX3_add_102 : decode cX3_add 102 = .ok (.getfield 21, 3) := by decide +kernel
theorem dX3_add_105 : decode cX3_add 105 = .ok (.iload_n 2, 1) := by decide +kernel
theorem dX3_add_106 : decode cX3_add 106 = .ok (.iconst (-1), 1) := by decide +kernel
theorem dX3_add_107 : decode cX3_add 107 = .ok (.if_icmp .ne 7, 3) := by decide +kernel
theorem dX3_add_110 : decode cX3_add 110 = .ok (.iconst (-1), 1) := by decide +kernel
theorem dX3_add_111 : decode cX3_add 111 = .ok (.goto 9, 3) := by decide +kernel
theorem dX3_add_114 : decode cX3_add 114 = .ok (.aload_n 0, 1) := by decide +kernel
theorem dX3_add_115 : decode cX3_add 115 = .ok (.getfield 9, 3) := by decide +kernel
theorem dX3_add_118 : decode cX3_add 118 = .ok (.iload_n 2, 1) := by decide +kernel
theorem dX3_add_119 : decode cX3_add 119 = .ok (.iaload, 1) := by decide +kernel
theorem dX3_add_120 : decode cX3_add 120 = .ok (.iastore, 1) := by decide +kernel
theorem dX3_add_121 : decode cX3_add 121 = .ok (.aload_n 0, 1) := by decide +kernel
theorem dX3_add_122 : decode cX3_add 122 = .ok (.getfield 18, 3) := by decide +kernel
theorem dX3_add_125 : decode cX3_add 125 = .ok (.aload_n 0, 1) := by decide +kernel
theorem dX3_add_126 : decode cX3_add 126 = .ok (.getfield 21, 3) := by decide +kernel
theorem dX3_add_129 : decode cX3_add 129 = .ok (.iload_n 2, 1) := by decide +kernel
theorem dX3_add_130 : decode cX3_add 130 = .ok (.iconst (-1), 1) := by decide +kernel
theorem dX3_add_131 : decode cX3_add 131 = .ok (.if_icmp .ne 7, 3) := by decide +kernel
theorem dX3_add_134 : decode cX3_add 134 = .ok (.iconst 0, 1) := by decide +kernel
theorem dX3_add_135 : decode cX3_add 135 = .ok (.goto 11, 3) := by decide +kernel
theorem dX3_add_138 : decode cX3_add 138 = .ok (.aload_n 0, 1) := by decide +kernel
theorem dX3_add_139 : decode cX3_add 139 = .ok (.getfield 18, 3) := by decide +kernel
theorem dX3_add_142 : decode cX3_add 142 = .ok (.iload_n 2, 1) := by decide +kernel
theorem dX3_add_143 : decode cX3_add 143 = .ok (.iaload, 1) := by decide +kernel
theorem dX3_add_144 : decode cX3_add 144 = .ok (.iconst 1, 1) := by decide +kernel
theorem dX3_add_145 : decode cX3_add 145 = .ok (.iadd, 1) := by decide +kernel
theorem dX3_add_146 : decode cX3_add 146 = .ok (.iastore, 1) := by decide +kernel
theorem dX3_add_147 : decode cX3_add 147 = .ok (.aload_n 0, 1) := by decide +kernel
theorem dX3_add_148 : decode cX3_add 148 = .ok (.dup, 1) := by decide +kernel
theorem dX3_add_149 : decode cX3_add 149 = .ok (.getfield 25, 3) := by decide +kernel
theorem dX3_add_152 : decode cX3_add 152 = .ok (.iload_n 3, 1) := by decide +kernel
theorem dX3_add_153 : decode cX3_add 153 = .ok (.i2l, 1) := by decide +kernel
theorem dX3_add_154 : decode cX3_add 154 = .ok (.ladd, 1) := by decide +kernel
theorem dX3_add_155 : decode cX3_add 155 = .ok (.putfield 25, 3) := by decide +kernel
theorem dX3_add_158 : decode cX3_add 158 = .ok (.aload_n 0, 1) := by decide +kernel
theorem dX3_add_159 : decode cX3_add 159 = .ok (.dup, 1) := by decide +kernel
theorem dX3_add_160 : decode cX3_add 160 = .ok (.getfield 21, 3) := by decide +kernel
theorem dX3_add_163 : decode cX3_add 163 = .ok (.iconst 1, 1) := by decide +kernel
theorem dX3_add_164 : decode cX3_add 164 = .ok (.iadd, 1) := by decide +kernel
theorem dX3_add_165 : decode cX3_add 165 = .ok (.putfield 21, 3) := by decide +kernel
theorem dX3_add_168 : decode cX3_add 168 = .ok (.return_, 1) := by decide +kernel
theorem dX4_init_0 : decode cX4_init 0 = .ok (.aload_n 0, 1) := by decide +kernel
theorem dX4_init_1 : decode cX4_init 1 = .ok (.invokespecial 3, 3) := by decide +kernel
theorem dX4_init_4 : decode cX4_init 4 = .ok (.aload_n 0, 1) := by decide +kernel
theorem dX4_init_5 : decode cX4_init 5 = .ok (.bipush 8, 2) := by decide +kernel
theorem dX4_init_7 : decode cX4_init 7 = .ok (.newarray .int, 2) := by decide +kernel
theorem dX4_init_9 : decode cX4_init 9 = .ok (.putfield 9, 3) := by decide +kernel
theorem dX4_init_12 : decode cX4_init 12 = .ok (.iconst 0, 1) := by decide +kernel
theorem dX4_init_13 : decode cX4_init 13 = .ok (.istore_n 1, 1) := by decide +kernel
theorem dX4_init_14 : decode cX4_init 14 = .ok (.iload_n 1, 1) := by decide +kernel
theorem dX4_init_15 : decode cX4_init 15 = .ok (.aload_n 0, 1) := by decide +kernel
theorem dX4_init_16 : decode cX4_init 16 = .ok (.getfield 9, 3) := by decide +kernel
theorem dX4_init_19 : decode cX4_init 19 = .ok (.arraylength, 1) := by decide +kernel
theorem dX4_init_20 : decode cX4_init 20 = .ok (.if_icmp .ge 16, 3) := by decide +kernel
theorem dX4_init_23 : decode cX4_init 23 = .ok (.aload_n 0, 1) := by decide +kernel
theorem dX4_init_24 : decode cX4_init 24 = .ok (.getfield 9, 3) := by decide +kernel
theorem dX4_init_27 : decode cX4_init 27 = .ok (.iload_n 1, 1) := by decide +kernel
theorem dX4_init_28 : decode cX4_init 28 = .ok (.iconst (-1), 1) := by decide +kernel
theorem dX4_init_29 : decode cX4_init 29 = .ok (.iastore, 1) := by decide +kernel
theorem dX4_init_30 : decode cX4_init 30 = .ok (.iinc 1 1, 3) := by decide +kernel
theorem dX4_init_33 : decode cX4_init 33 = .ok (.goto (-19), 3) := by decide +kernel
theorem dX4_init_36 : decode cX4_init 36 = .ok (.return_, 1) := by decide +kernel
theorem dX4_at_0 : decode cX4_at 0 = .ok (.iload_n 1, 1) := by decide +kernel
theorem dX4_at_1 : decode cX4_at 1 = .ok (.ifCond .lt 21, 3) := by decide +kernel
theorem dX4_at_4 : decode cX4_at 4 = .ok (.iload_n 1, 1) := by decide +kernel
theorem dX4_at_5 : decode cX4_at 5 = .ok (.aload_n 0, 1) := by decide +kernel
theorem dX4_at_6 : decode cX4_at 6 = .ok (.getfield 9, 3) := by decide +kernel
theorem dX4_at_9 : decode cX4_at 9 = .ok (.arraylength, 1) := by decide +kernel
theorem dX4_at_10 : decode cX4_at 10 = .ok (.if_icmp .ge 12, 3) := by decide +kernel
theorem dX4_at_13 : decode cX4_at 13 = .ok (.aload_n 0, 1) := by decide +kernel
theorem dX4_at_14 : decode cX4_at 14 = .ok (.getfield 9, 3) := by decide +kernel
theorem dX4_at_17 : decode cX4_at 17 = .ok (.iload_n 1, 1) := by decide +kernel
theorem dX4_at_18 : decode cX4_at 18 = .ok (.iaload, 1) := by decide +kernel
theorem dX4_at_19 : decode cX4_at 19 = .ok (.goto 4, 3) := by decide +kernel
theorem dX4_at_22 : decode cX4_at 22 = .ok (.iconst (-1), 1) := by decide +kernel
theorem dX4_at_23 : decode cX4_at 23 = .ok (.ireturn, 1) := by decide +kernel
theorem dX4_put_0 : decode cX4_put 0 = .ok (.iload_n 1, 1) := by decide +kernel
theorem dX4_put_1 : decode cX4_put 1 = .ok (.ifCond .lt 19, 3) := by decide +kernel
theorem dX4_put_4 : decode cX4_put 4 = .ok (.iload_n 1, 1) := by decide +kernel
theorem dX4_put_5 : decode cX4_put 5 = .ok (.aload_n 0, 1) := by decide +kernel
theorem dX4_put_6 : decode cX4_put 6 = .ok (.getfield 9, 3) := by decide +kernel
theorem dX4_put_9 : decode cX4_put 9 = .ok (.arraylength, 1) := by decide +kernel
theorem dX4_put_10 : decode cX4_put 10 = .ok (.if_icmp .ge 10, 3) := by decide +kernel
theorem dX4_put_13 : decode cX4_put 13 = .ok (.aload_n 0, 1) := by decide +kernel
theorem dX4_put_14 : decode cX4_put 14 = .ok (.getfield 9, 3) := by decide +kernel
theorem dX4_put_17 : decode cX4_put 17 = .ok (.iload_n 1, 1) := by decide +kernel
theorem dX4_put_18 : decode cX4_put 18 = .ok (.iload_n 2, 1) := by decide +kernel
theorem dX4_put_19 : decode cX4_put 19 = .ok (.iastore, 1) := by decide +kernel
theorem dX4_put_20 : decode cX4_put 20 = .ok (.return_, 1) := by decide +kernel
theorem dX4_copy_0 : decode cX4_copy 0 = .ok (.iconst 0, 1) := by decide +kernel
theorem dX4_copy_1 : decode cX4_copy 1 = .ok (.istore_n 2, 1) := by decide +kernel
theorem dX4_copy_2 : decode cX4_copy 2 = .ok (.iload_n 2, 1) := by decide +kernel
theorem dX4_copy_3 : decode cX4_copy 3 = .ok (.aload_n 0, 1) := by decide +kernel
theorem dX4_copy_4 : decode cX4_copy 4 = .ok (.getfield 9, 3) := by decide +kernel
theorem dX4_copy_7 : decode cX4_copy 7 = .ok (.arraylength, 1) := by decide +kernel
theorem dX4_copy_8 : decode cX4_copy 8 = .ok (.if_icmp .ge 20, 3) := by decide +kernel
theorem dX4_copy_11 : decode cX4_copy 11 = .ok (.aload_n 0, 1) := by decide +kernel
theorem dX4_copy_12 : decode cX4_copy 12 = .ok (.getfield 9, 3) := by decide +kernel
theorem dX4_copy_15 : decode cX4_copy 15 = .ok (.iload_n 2, 1) := by decide +kernel
theorem dX4_copy_16 : decode cX4_copy 16 = .ok (.aload_n 1, 1) := by decide +kernel
theorem dX4_copy_17 : decode cX4_copy 17 = .ok (.iload_n 2, 1) := by decide +kernel
theorem dX4_copy_18 : decode cX4_copy 18 = .ok (.invokevirtual 15, 3) := by decide +kernel
theorem dX4_copy_21 : decode cX4_copy 21 = .ok (.iastore, 1) := by decide +kernel
theorem dX4_copy_22 : decode cX4_copy 22 = .ok (.iinc 2 1, 3) := by decide +kernel
theorem dX4_copy_25 : decode cX4_copy 25 = .ok (.goto (-23), 3) := by decide +kernel
theorem dX4_copy_28 : decode cX4_copy 28 = .ok (.return_, 1) := by decide +kernel
theorem dX4_differences_0 : decode cX4_differences 0 = .ok (.iconst 0, 1) := by decide +kernel
theorem dX4_differences_1 : decode cX4_differences 1 = .ok (.istore_n 2, 1) := by decide +kernel
theorem dX4_differences_2 : decode cX4_differences 2 = .ok (.iconst 0, 1) := by decide +kernel
theorem dX4_differences_3 : decode cX4_differences 3 = .ok (.istore_n 3, 1) := by decide +kernel
theorem dX4_differences_4 : decode cX4_differences 4 = .ok (.iload_n 3, 1) := by decide +kernel
theorem dX4_differences_5 : decode cX4_differences 5 = .ok (.aload_n 0, 1) := by decide +kernel
theorem dX4_differences_6 : decode cX4_differences 6 = .ok (.getfield 9, 3) := by decide +kernel
theorem dX4_differences_9 : decode cX4_differences 9 = .ok (.arraylength, 1) := by decide +kernel
theorem dX4_differences_10 : decode cX4_differences 10 = .ok (.if_icmp .ge 26, 3) := by decide +kernel
theorem dX4_differences_13 : decode cX4_differences 13 = .ok (.aload_n 0, 1) := by decide +kernel
theorem dX4_differences_14 : decode cX4_differences 14 = .ok (.getfield 9, 3) := by decide +kernel
theorem dX4_differences_17 : decode cX4_differences 17 = .ok (.iload_n 3, 1) := by decide +kernel
theorem dX4_differences_18 : decode cX4_differences 18 = .ok (.iaload, 1) := by decide +kernel
theorem dX4_differences_19 : decode cX4_differences 19 = .ok (.aload_n 1, 1) := by decide +kernel
theorem dX4_differences_20 : decode cX4_differences 20 = .ok (.iload_n 3, 1) := by decide +kernel
theorem dX4_differences_21 : decode cX4_differences 21 = .ok (.invokevirtual 15, 3) := by decide +kernel
theorem dX4_differences_24 : decode cX4_differences 24 = .ok (.if_icmp .eq 6, 3) := by decide +kernel
theorem dX4_differences_27 : decode cX4_differences 27 = .ok (.iinc 2 1, 3) := by decide +kernel
theorem dX4_differences_30 : decode cX4_differences 30 = .ok (.iinc 3 1, 3) := by decide +kernel
theorem dX4_differences_33 : decode cX4_differences 33 = .ok (.goto (-29), 3) := by decide +kernel
theorem dX4_differences_36 : decode cX4_differences 36 = .ok (.iload_n 2, 1) := by decide +kernel
theorem dX4_differences_37 : decode cX4_differences 37 = .ok (.ireturn, 1) := by decide +kernel
theorem dX4_countFiles_0 : decode cX4_countFiles 0 = .ok (.iconst 0, 1) := by decide +kernel
theorem dX4_countFiles_1 : decode cX4_countFiles 1 = .ok (.istore_n 1, 1) := by decide +kernel
theorem dX4_countFiles_2 : decode cX4_countFiles 2 = .ok (.iconst 0, 1) := by decide +kernel
theorem dX4_countFiles_3 : decode cX4_countFiles 3 = .ok (.istore_n 2, 1) := by decide +kernel
theorem dX4_countFiles_4 : decode cX4_countFiles 4 = .ok (.iload_n 2, 1) := by decide +kernel
theorem dX4_countFiles_5 : decode cX4_countFiles 5 = .ok (.aload_n 0, 1) := by decide +kernel
theorem dX4_countFiles_6 : decode cX4_countFiles 6 = .ok (.getfield 9, 3) := by decide +kernel
theorem dX4_countFiles_9 : decode cX4_countFiles 9 = .ok (.arraylength, 1) := by decide +kernel
theorem dX4_countFiles_10 : decode cX4_countFiles 10 = .ok (.if_icmp .ge 22, 3) := by decide +kernel
theorem dX4_countFiles_13 : decode cX4_countFiles 13 = .ok (.aload_n 0, 1) := by decide +kernel
theorem dX4_countFiles_14 : decode cX4_countFiles 14 = .ok (.getfield 9, 3) := by decide +kernel
theorem dX4_countFiles_17 : decode cX4_countFiles 17 = .ok (.iload_n 2, 1) := by decide +kernel
theorem dX4_countFiles_18 : decode cX4_countFiles 18 = .ok (.iaload, 1) := by decide +kernel
theorem dX4_countFiles_19 : decode cX4_countFiles 19 = .ok (.iconst (-1), 1) := by decide +kernel
theorem dX4_countFiles_20 : decode cX4_countFiles 20 = .ok (.if_icmp .eq 6, 3) := by decide +kernel
theorem dX4_countFiles_23 : decode cX4_countFiles 23 = .ok (.iinc 1 1, 3) := by decide +kernel
theorem dX4_countFiles_26 : decode cX4_countFiles 26 = .ok (.iinc 2 1, 3) := by decide +kernel
theorem dX4_countFiles_29 : decode cX4_countFiles 29 = .ok (.goto (-25), 3) := by decide +kernel
theorem dX4_countFiles_32 : decode cX4_countFiles 32 = .ok (.iload_n 1, 1) := by decide +kernel
theorem dX4_countFiles_33 : decode cX4_countFiles 33 = .ok (.ireturn, 1) := by decide +kernel
theorem dX5_init_0 : decode cX5_init 0 = .ok (.aload_n 0, 1) := by decide +kernel
theorem dX5_init_1 : decode cX5_init 1 = .ok (.invokespecial 3, 3) := by decide +kernel
theorem dX5_init_4 : decode cX5_init 4 = .ok (.aload_n 0, 1) := by decide +kernel
theorem dX5_init_5 : decode cX5_init 5 = .ok (.new 9, 3) := by decide +kernel
theorem dX5_init_8 : decode cX5_init 8 = .ok (.dup, 1) := by decide +kernel
theorem dX5_init_9 : decode cX5_init 9 = .ok (.invokespecial 11, 3) := by decide +kernel
theorem dX5_init_12 : decode cX5_init 12 = .ok (.putfield 12, 3) := by decide +kernel
theorem dX5_init_15 : decode cX5_init 15 = .ok (.aload_n 0, 1) := by decide +kernel
theorem dX5_init_16 : decode cX5_init 16 = .ok (.new 9, 3) := by decide +kernel
theorem dX5_init_19 : decode cX5_init 19 = .ok (.dup, 1) := by decide +kernel
theorem dX5_init_20 : decode cX5_init 20 = .ok (.invokespecial 11, 3) := by decide +kernel
theorem dX5_init_23 : decode cX5_init 23 = .ok (.putfield 18, 3) := by decide +kernel
theorem dX5_init_26 : decode cX5_init 26 = .ok (.aload_n 0, 1) := by decide +kernel
theorem dX5_init_27 : decode cX5_init 27 = .ok (.new 21, 3) := by decide +kernel
theorem dX5_init_30 : decode cX5_init 30 = .ok (.dup, 1) := by decide +kernel
theorem dX5_init_31 : decode cX5_init 31 = .ok (.invokespecial 23, 3) := by decide +kernel
theorem dX5_init_34 : decode cX5_init 34 = .ok (.putfield 24, 3) := by decide +kernel
theorem dX5_init_37 : decode cX5_init 37 = .ok (.aload_n 0, 1) := by decide +kernel
theorem dX5_init_38 : decode cX5_init 38 = .ok (.bipush 8, 2) := by decide +kernel
theorem dX5_init_40 : decode cX5_init 40 = .ok (.newarray .int, 2) := by decide +kernel
theorem dX5_init_42 : decode cX5_init 42 = .ok (.putfield 28, 3) := by decide +kernel
theorem dX5_init_45 : decode cX5_init 45 = .ok (.return_, 1) := by decide +kernel
theorem dX5_merged_0 : decode cX5_merged 0 = .ok (.aload_n 0, 1) := by decide +kernel
theorem dX5_merged_1 : decode cX5_merged 1 = .ok (.getfield 24, 3) := by decide +kernel
theorem dX5_merged_4 : decode cX5_merged 4 = .ok (.areturn, 1) := by decide +kernel
theorem dX5_moveBetween_0 : decode cX5_moveBetween 0 = .ok (.aload_n 0, 1) := by decide +kernel
theorem dX5_moveBetween_1 : decode cX5_moveBetween 1 = .ok (.getfield 12, 3) := by decide +kernel
theorem dX5_moveBetween_4 : decode cX5_moveBetween 4 = .ok (.aload_n 1, 1) := by decide +kernel
theorem dX5_moveBetween_5 : decode cX5_moveBetween 5 = .ok (.aload_n 2, 1) := by decide +kernel
theorem dX5_moveBetween_6 : decode cX5_moveBetween 6 = .ok (.invokevirtual 32, 3) := by decide +kernel
theorem dX5_moveBetween_9 : decode cX5_moveBetween 9 = .ok (.aload_n 0, 1) := by decide +kernel
theorem dX5_moveBetween_10 : decode cX5_moveBetween 10 = .ok (.getfield 12, 3) := by decide +kernel
theorem dX5_moveBetween_13 : decode cX5_moveBetween 13 = .ok (.iload_n 3, 1) := by decide +kernel
theorem dX5_moveBetween_14 : decode cX5_moveBetween 14 = .ok (.invokevirtual 36, 3) := by decide +kernel
theorem dX5_moveBetween_17 : decode cX5_moveBetween 17 = .ok (.ireturn, 1) := by decide +kernel
theorem dX5_run_0 : decode cX5_run 0 = .ok (.aload_n 0, 1) := by decide +kernel
theorem dX5_run_1 : decode cX5_run 1 = .ok (.getfield 12, 3) := by decide +kernel
theorem dX5_run_4 : decode cX5_run 4 = .ok (.aload_n 1, 1) := by decide +kernel
theorem dX5_run_5 : decode cX5_run 5 = .ok (.iload_n 2, 1) := by decide +kernel
theorem dX5_run_6 : decode cX5_run 6 = .ok (.invokevirtual 40, 3) := by decide +kernel
theorem dX5_run_9 : decode cX5_run 9 = .ok (.aload_n 1, 1) := by decide +kernel
theorem dX5_run_10 : decode cX5_run 10 = .ok (.iload_n 3, 1) := by decide +kernel
theorem dX5_run_11 : decode cX5_run 11 = .ok (.invokevirtual 40, 3) := by decide +kernel
theorem dX5_run_14 : decode cX5_run 14 = .ok (.invokevirtual 32, 3) := by decide +kernel
theorem dX5_run_17 : decode cX5_run 17 = .ok (.aload_n 0, 1) := by decide +kernel
theorem dX5_run_18 : decode cX5_run 18 = .ok (.getfield 18, 3) := by decide +kernel
theorem dX5_run_21 : decode cX5_run 21 = .ok (.aload_n 1, 1) := by decide +kernel
theorem dX5_run_22 : decode cX5_run 22 = .ok (.iload_n 2, 1) := by decide +kernel
theorem dX5_run_23 : decode cX5_run 23 = .ok (.invokevirtual 40, 3) := by decide +kernel
theorem dX5_run_26 : decode cX5_run 26 = .ok (.aload_n 1, 1) := by decide +kernel
theorem dX5_run_27 : decode cX5_run 27 = .ok (.iload 4, 2) := by decide +kernel
theorem dX5_run_29 : decode cX5_run 29 = .ok (.invokevirtual 40, 3) := by decide +kernel
theorem dX5_run_32 : decode cX5_run 32 = .ok (.invokevirtual 32, 3) := by decide +kernel
theorem dX5_run_35 : decode cX5_run 35 = .ok (.aload_n 0, 1) := by decide +kernel
theorem dX5_run_36 : decode cX5_run 36 = .ok (.iconst 0, 1) := by decide +kernel
theorem dX5_run_37 : decode cX5_run 37 = .ok (.putfield 46, 3) := by decide +kernel
theorem dX5_run_40 : decode cX5_run 40 = .ok (.iconst 0, 1) := by decide +kernel
theorem dX5_run_41 : decode cX5_run 41 = .ok (.istore 5, 2) := by decide +kernel
theorem dX5_run_43 : decode cX5_run 43 = .ok (.iload 5, 2) := by decide +kernel
theorem dX5_run_45 : decode cX5_run 45 = .ok (.aload_n 0, 1) := by decide +kernel
theorem dX5_run_46 : decode cX5_run 46 = .ok (.getfield 28, 3) := by decide +kernel
theorem dX5_run_49 : decode cX5_run 49 = .ok (.arraylength, 1) := by decide +kernel
theorem dX5_run_50 : decode cX5_run 50 = .ok (.if_icmp .ge 27, 3) := by decide +kernel
theorem dX5_run_53 : decode cX5_run 53 = .ok (.aload_n 0, 1) := by decide +kernel
theorem dX5_run_54 : decode cX5_run 54 = .ok (.getfield 28, 3) := by decide +kernel
theorem dX5_run_57 : decode cX5_run 57 = .ok (.iload 5, 2) := by decide +kernel
theorem dX5_run_59 : decode cX5_run 59 = .ok (.iconst 0, 1) := by decide +kernel
theorem dX5_run_60 : decode cX5_run 60 = .ok (.iastore, 1) := by decide +kernel
theorem dX5_run_61 : decode cX5_run 61 = .ok (.aload_n 0, 1) := by decide +kernel
theorem dX5_run_62 : decode cX5_run 62 = .ok (.getfield 24, 3) := by decide +kernel
theorem dX5_run_65 : decode cX5_run 65 = .ok (.iload 5, 2) := by decide +kernel
theorem dX5_run_67 : decode cX5_run 67 = .ok (.iconst (-1), 1) := by decide +kernel
theorem dX5_run_68 : decode cX5_run 68 = .ok (.invokevirtual 50, 3) := by decide +kernel
theorem dX5_run_71 : decode cX5_run 71 = .ok (.iinc 5 1, 3) := by decide +kernel
theorem dX5_run_74 : decode cX5_run 74 = .ok (.goto (-31), 3) := by decide +kernel
theorem dX5_run_77 : decode cX5_run 77 = .ok (.iconst 0, 1) := by decide +kernel
theorem dX5_run_78 : decode cX5_run 78 = .ok (.istore 5, 2) := by decide +kernel
theorem dX5_run_80 : decode cX5_run 80 = .ok (.iload 5, 2) := by decide +kernel
theorem dX5_run_82 : decode cX5_run 82 = .ok (.bipush 8, 2) := by decide +kernel
theorem dX5_run_84 : decode cX5_run 84 = .ok (.if_icmp .ge 34, 3) := by decide +kernel
theorem dX5_run_87 : decode cX5_run 87 = .ok (.aload_n 0, 1) := by decide +kernel
theorem dX5_run_88 : decode cX5_run 88 = .ok (.getfield 12, 3) := by decide +kernel
theorem dX5_run_91 : decode cX5_run 91 = .ok (.iload 5, 2) := by decide +kernel
theorem dX5_run_93 : decode cX5_run 93 = .ok (.invokevirtual 54, 3) := by decide +kernel
theorem dX5_run_96 : decode cX5_run 96 = .ok (.iconst (-1), 1) := by decide +kernel
theorem dX5_run_97 : decode cX5_run 97 = .ok (.if_icmp .eq 9, 3) := by decide +kernel
theorem dX5_run_100 : decode cX5_run 100 = .ok (.aload_n 0, 1) := by decide +kernel
theorem dX5_run_101 : decode cX5_run 101 = .ok (.iload 5, 2) := by decide +kernel
theorem dX5_run_103 : decode cX5_run 103 = .ok (.invokevirtual 57, 3) := by decide +kernel
theorem dX5_run_106 : decode cX5_run 106 = .ok (.aload_n 0, 1) := by decide +kernel
theorem dX5_run_107 : decode cX5_run 107 = .ok (.iload 5, 2) := by decide +kernel
theorem dX5_run_109 : decode cX5_run 109 = .ok (.invokevirtual 61, 3) := by decide +kernel
theorem dX5_run_112 : decode cX5_run 112 = .ok (.iinc 5 1, 3) := by decide +kernel
theorem dX5_run_115 : decode cX5_run 115 = .ok (.goto (-35), 3) := by decide +kernel
theorem dX5_run_118 : decode cX5_run 118 = .ok (.aload_n 0, 1) := by decide +kernel
theorem dX5_run_119 : decode cX5_run 119 = .ok (.getfield 46, 3) := by decide +kernel
theorem dX5_run_122 : decode cX5_run 122 = .ok (.aload_n 0, 1) := by decide +kernel
theorem dX5_run_123 : decode cX5_run 123 = .ok (.invokevirtual 64, 3) := by decide +kernel
theorem dX5_run_126 : decode cX5_run 126 = .ok (.iadd, 1) := by decide +kernel
theorem dX5_run_127 : decode cX5_run 127 = .ok (.ireturn, 1) := by decide +kernel
theorem dX5_follow_0 : decode cX5_follow 0 = .ok (.aload_n 0, 1) := by decide +kernel
theorem dX5_follow_1 : decode cX5_follow 1 = .ok (.getfield 12, 3) := by decide +kernel
theorem dX5_follow_4 : decode cX5_follow 4 = .ok (.iload_n 1, 1) := by decide +kernel
theorem dX5_follow_5 : decode cX5_follow 5 = .ok (.invokevirtual 68, 3) := by decide +kernel
theorem dX5_follow_8 : decode cX5_follow 8 = .ok (.istore_n 2, 1) := by decide +kernel
theorem dX5_follow_9 : decode cX5_follow 9 = .ok (.aload_n 0, 1) := by decide +kernel
theorem dX5_follow_10 : decode cX5_follow 10 = .ok (.getfield 18, 3) := by decide +kernel
theorem dX5_follow_13 : decode cX5_follow 13 = .ok (.iload_n 1, 1) := by decide +kernel
theorem dX5_follow_14 : decode cX5_follow 14 = .ok (.invokevirtual 68, 3) := by decide +kernel
theorem dX5_follow_17 : decode cX5_follow 17 = .ok (.istore_n 3, 1) := by decide +kernel
theorem dX5_follow_18 : decode cX5_follow 18 = .ok (.iload_n 2, 1) := by decide +kernel
theorem dX5_follow_19 : decode cX5_follow 19 = .ok (.iconst (-1), 1) := by decide +kernel
theorem dX5_follow_20 : decode cX5_follow 20 = .ok (.if_icmp .eq 8, 3) := by decide +kernel
theorem dX5_follow_23 : decode cX5_follow 23 = .ok (.iload_n 3, 1) := by decide +kernel
theorem dX5_follow_24 : decode cX5_follow 24 = .ok (.iconst (-1), 1) := by decide +kernel
theorem dX5_follow_25 : decode cX5_follow 25 = .ok (.if_icmp .ne 36, 3) := by decide +kernel
theorem dX5_follow_28 : decode cX5_follow 28 = .ok (.aload_n 0, 1) := by decide +kernel
theorem dX5_follow_29 : decode cX5_follow 29 = .ok (.getfield 12, 3) := by decide +kernel
theorem dX5_follow_32 : decode cX5_follow 32 = .ok (.iload_n 1, 1) := by decide +kernel
theorem dX5_follow_33 : decode cX5_follow 33 = .ok (.invokevirtual 71, 3) := by decide +kernel
theorem dX5_follow_36 : decode cX5_follow 36 = .ok (.ifCond .eq 14, 3) := by decide +kernel
theorem dX5_follow_39 : decode cX5_follow 39 = .ok (.aload_n 0, 1) := by decide +kernel
theorem dX5_follow_40 : decode cX5_follow 40 = .ok (.getfield 18, 3) := by decide +kernel
theorem dX5_follow_43 : decode cX5_follow 43 = .ok (.iload_n 1, 1) := by decide +kernel
theorem dX5_follow_44 : decode cX5_follow 44 = .ok (.invokevirtual 71, 3) := by decide +kernel
theorem dX5_follow_47 : decode cX5_follow 47 = .ok (.ifCond .ne 13, 3) := by decide +kernel
theorem dX5_follow_50 : decode cX5_follow 50 = .ok (.aload_n 0, 1) := by decide +kernel
theorem dX5_follow_51 : decode cX5_follow 51 = .ok (.dup, 1) := by decide +kernel
theorem dX5_follow_52 : decode cX5_follow 52 = .ok (.getfield 46, 3) := by decide +kernel
theorem dX5_follow_55 : decode cX5_follow 55 = .ok (.iconst 1, 1) := by decide +kernel
theorem dX5_follow_56 : decode cX5_follow 56 = .ok (.iadd, 1) := by decide +kernel
theorem dX5_follow_57 : decode cX5_follow 57 = .ok (.putfield 46, 3) := by decide +kernel
theorem dX5_follow_60 : decode cX5_follow 60 = .ok (.return_, 1) := by decide +kernel
theorem dX5_follow_61 : decode cX5_follow 61 = .ok (.iload_n 1, 1) := by decide +kernel
theorem dX5_follow_62 : decode cX5_follow 62 = .ok (.iload_n 2, 1) := by decide +kernel
theorem dX5_follow_63 : decode cX5_follow 63 = .ok (.iload_n 3, 1) := by decide +kernel
theorem dX5_follow_64 : decode cX5_follow 64 = .ok (.invokestatic 75, 3) := by decide +kernel
theorem dX5_follow_67 : decode cX5_follow 67 = .ok (.istore 4, 2) := by decide +kernel
theorem dX5_follow_69 : decode cX5_follow 69 = .ok (.aload_n 0, 1) := by decide +kernel
theorem dX5_follow_70 : decode cX5_follow 70 = .ok (.getfield 12, 3) := by decide +kernel
theorem dX5_follow_73 : decode cX5_follow 73 = .ok (.iload_n 1, 1) := by decide +kernel
theorem dX5_follow_74 : decode cX5_follow 74 = .ok (.invokevirtual 54, 3) := by decide +kernel
theorem dX5_follow_77 : decode cX5_follow 77 = .ok (.aload_n 0, 1) := by decide +kernel
theorem dX5_follow_78 : decode cX5_follow 78 = .ok (.getfield 12, 3) := by decide +kernel
theorem dX5_follow_81 : decode cX5_follow 81 = .ok (.iload_n 2, 1) := by decide +kernel
theorem dX5_follow_82 : decode cX5_follow 82 = .ok (.invokevirtual 81, 3) := by decide +kernel
theorem dX5_follow_85 : decode cX5_follow 85 = .ok (.aload_n 0, 1) := by decide +kernel
theorem dX5_follow_86 : decode cX5_follow 86 = .ok (.getfield 18, 3) := by decide +kernel
theorem dX5_follow_89 : decode cX5_follow 89 = .ok (.iload_n 3, 1) := by decide +kernel
theorem dX5_follow_90 : decode cX5_follow 90 = .ok (.invokevirtual 81, 3) := by decide +kernel
theorem dX5_follow_93 : decode cX5_follow 93 = .ok (.invokestatic 84, 3) := by decide +kernel
theorem dX5_follow_96 : decode cX5_follow 96 = .ok (.istore 5, 2) := by decide +kernel
theorem dX5_follow_98 : decode cX5_follow 98 = .ok (.iload 4, 2) := by decide +kernel
theorem dX5_follow_100 : decode cX5_follow 100 = .ok (.iconst (-1), 1) := by decide +kernel
theorem dX5_follow_101 : decode cX5_follow 101 = .ok (.if_icmp .eq 9, 3) := by decide +kernel
theorem dX5_follow_104 : decode cX5_follow 104 = .ok (.iload 5, 2) := by decide +kernel
theorem dX5_follow_106 : decode cX5_follow 106 = .ok (.iconst (-1), 1) := by decide +kernel
theorem dX5_follow_107 : decode cX5_follow 107 = .ok (.if_icmp .ne 16, 3) := by decide +kernel
theorem dX5_follow_110 : decode cX5_follow 110 = .ok (.aload_n 0, 1) := by decide +kernel
theorem dX5_follow_111 : decode cX5_follow 111 = .ok (.dup, 1) := by decide +kernel
theorem dX5_follow_112 : decode cX5_follow 112 = .ok (.getfield 46, 3) := by decide +kernel
theorem dX5_follow_115 : decode cX5_follow 115 = .ok (.iconst 1, 1) := by decide +kernel
theorem dX5_follow_116 : decode cX5_follow 116 = .ok (.iadd, 1) := by decide +kernel
theorem dX5_follow_117 : decode cX5_follow 117 = .ok (.putfield 46, 3) := by decide +kernel
theorem dX5_follow_120 : decode cX5_follow 120 = .ok (.goto 11, 3) := by decide +kernel
theorem dX5_follow_123 : decode cX5_follow 123 = .ok (.aload_n 0, 1) := by decide +kernel
theorem dX5_follow_124 : decode cX5_follow 124 = .ok (.iload 4, 2) := by decide +kernel
theorem dX5_follow_126 : decode cX5_follow 126 = .ok (.iload 5, 2) := by decide +kernel
theorem dX5_follow_128 : decode cX5_follow 128 = .ok (.invokevirtual 87, 3) := by decide +kernel
theorem dX5_follow_131 : decode cX5_follow 131 = .ok (.return_, 1) := by decide +kernel
theorem dX5_bringNewFiles_0 : decode cX5_bringNewFiles 0 = .ok (.aload_n 0, 1) := by decide +kernel
theorem dX5_bringNewFiles_1 : decode cX5_bringNewFiles 1 = .ok (.getfield 12, 3) := by decide +kernel
theorem dX5_bringNewFiles_4 : decode cX5_bringNewFiles 4 = .ok (.iload_n 1, 1) := by decide +kernel
theorem dX5_bringNewFiles_5 : decode cX5_bringNewFiles 5 = .ok (.invokevirtual 90, 3) := by decide +kernel
theorem dX5_bringNewFiles_8 : decode cX5_bringNewFiles 8 = .ok (.istore_n 2, 1) := by decide +kernel
theorem dX5_bringNewFiles_9 : decode cX5_bringNewFiles 9 = .ok (.aload_n 0, 1) := by decide +kernel
theorem dX5_bringNewFiles_10 : decode cX5_bringNewFiles 10 = .ok (.getfield 18, 3) := by decide +kernel
theorem dX5_bringNewFiles_13 : decode cX5_bringNewFiles 13 = .ok (.iload_n 1, 1) := by decide +kernel
theorem dX5_bringNewFiles_14 : decode cX5_bringNewFiles 14 = .ok (.invokevirtual 90, 3) := by decide +kernel
theorem dX5_bringNewFiles_17 : decode cX5_bringNewFiles 17 = .ok (.istore_n 3, 1) := by decide +kernel
theorem dX5_bringNewFiles_18 : decode cX5_bringNewFiles 18 = .ok (.iload_n 2, 1) := by decide +kernel
theorem dX5_bringNewFiles_19 : decode cX5_bringNewFiles 19 = .ok (.iconst (-1), 1) := by decide +kernel
theorem dX5_bringNewFiles_20 : decode cX5_bringNewFiles 20 = .ok (.if_icmp .eq 9, 3) := by decide +kernel
theorem dX5_bringNewFiles_23 : decode cX5_bringNewFiles 23 = .ok (.aload_n 0, 1) := by decide +kernel
theorem dX5_bringNewFiles_24 : decode cX5_bringNewFiles 24 = .ok (.iload_n 1, 1) := by decide +kernel
theorem dX5_bringNewFiles_25 : decode cX5_bringNewFiles 25 = .ok (.iload_n 2, 1) := by decide +kernel
theorem dX5_bringNewFiles_26 : decode cX5_bringNewFiles 26 = .ok (.invokevirtual 87, 3) := by decide +kernel
theorem dX5_bringNewFiles_29 : decode cX5_bringNewFiles 29 = .ok (.iload_n 3, 1) := by decide +kernel
theorem dX5_bringNewFiles_30 : decode cX5_bringNewFiles 30 = .ok (.iconst (-1), 1) := by decide +kernel
theorem dX5_bringNewFiles_31 : decode cX5_bringNewFiles 31 = .ok (.if_icmp .eq 14, 3) := by decide +kernel
theorem dX5_bringNewFiles_34 : decode cX5_bringNewFiles 34 = .ok (.iload_n 3, 1) := by decide +kernel
theorem dX5_bringNewFiles_35 : decode cX5_bringNewFiles 35 = .ok (.iload_n 2, 1) := by decide +kernel
theorem dX5_bringNewFiles_36 : decode cX5_bringNewFiles 36 = .ok (.if_icmp .eq 9, 3) := by decide +kernel
theorem dX5_bringNewFiles_39 : decode cX5_bringNewFiles 39 = .ok (.aload_n 0, 1) := by decide +kernel
theorem dX5_bringNewFiles_40 : decode cX5_bringNewFiles 40 = .ok (.iload_n 1, 1) := by decide +kernel
theorem dX5_bringNewFiles_41 : decode cX5_bringNewFiles 41 = .ok (.iload_n 3, 1) := by decide +kernel
theorem dX5_bringNewFiles_42 : decode cX5_bringNewFiles 42 = .ok (.invokevirtual 87, 3) := by decide +kernel
theorem dX5_bringNewFiles_45 : decode cX5_bringNewFiles 45 = .ok (.return_, 1) := by decide +kernel
theorem dX5_arrive_0 : decode cX5_arrive 0 = .ok (.iload_n 1, 1) := by decide +kernel
theorem dX5_arrive_1 : decode cX5_arrive 1 = .ok (.ifCond .lt 31, 3) := by decide +kernel
theorem dX5_arrive_4 : decode cX5_arrive 4 = .ok (.iload_n 1, 1) := by decide +kernel
theorem dX5_arrive_5 : decode cX5_arrive 5 = .ok (.aload_n 0, 1) := by decide +kernel
theorem dX5_arrive_6 : decode cX5_arrive 6 = .ok (.getfield 28, 3) := by decide +kernel
theorem dX5_arrive_9 : decode cX5_arrive 9 = .ok (.arraylength, 1) := by decide +kernel
theorem dX5_arrive_10 : decode cX5_arrive 10 = .ok (.if_icmp .ge 22, 3) := by decide +kernel
theorem dX5_arrive_13 : decode cX5_arrive 13 = .ok (.aload_n 0, 1) := by decide +kernel
theorem dX5_arrive_14 : decode cX5_arrive 14 = .ok (.getfield 28, 3) := by decide +kernel
theorem dX5_arrive_17 : decode cX5_arrive 17 = .ok (.iload_n 1, 1) := by decide +kernel
theorem dX5_arrive_18 : decode cX5_arrive 18 = .ok (.dup2, 1) := by decide +kernel
theorem dX5_arrive_19 : decode cX5_arrive 19 = .ok (.iaload, 1) := by decide +kernel
theorem dX5_arrive_20 : decode cX5_arrive 20 = .ok (.iconst 1, 1) := by decide +kernel
theorem dX5_arrive_21 : decode cX5_arrive 21 = .ok (.iadd, 1) := by decide +kernel
theorem dX5_arrive_22 : decode cX5_arrive 22 = .ok (.iastore, 1) := by decide +kernel
theorem dX5_arrive_23 : decode cX5_arrive 23 = .ok (.aload_n 0, 1) := by decide +kernel
theorem dX5_arrive_24 : decode cX5_arrive 24 = .ok (.getfield 24, 3) := by decide +kernel
theorem dX5_arrive_27 : decode cX5_arrive 27 = .ok (.iload_n 1, 1) := by decide +kernel
theorem dX5_arrive_28 : decode cX5_arrive 28 = .ok (.iload_n 2, 1) := by decide +kernel
theorem dX5_arrive_29 : decode cX5_arrive 29 = .ok (.invokevirtual 50, 3) := by decide +kernel
theorem dX5_arrive_32 : decode cX5_arrive 32 = .ok (.return_, 1) := by decide +kernel
theorem dX5_countCrowdedPaths_0 : decode cX5_countCrowdedPaths 0 = .ok (.iconst 0, 1) := by decide +kernel
theorem dX5_countCrowdedPaths_1 : decode cX5_countCrowdedPaths 1 = .ok (.istore_n 1, 1) := by decide +kernel
theorem dX5_countCrowdedPaths_2 : decode cX5_countCrowdedPaths 2 = .ok (.iconst 0, 1) := by decide +kernel
theorem dX5_countCrowdedPaths_3 : decode cX5_countCrowdedPaths 3 = .ok (.istore_n 2, 1) := by decide +kernel
theorem dX5_countCrowdedPaths_4 : decode cX5_countCrowdedPaths 4 = .ok (.iload_n 2, 1) := by decide +kernel
theorem dX5_countCrowdedPaths_5 : decode cX5_countCrowdedPaths 5 = .ok (.aload_n 0, 1) := by decide +kernel
theorem dX5_countCrowdedPaths_6 : decode cX5_countCrowdedPaths 6 = .ok (.getfield 28, 3) := by decide +kernel
theorem dX5_countCrowdedPaths_9 : decode cX5_countCrowdedPaths 9 = .ok (.arraylength, 1) := by decide +kernel
theorem dX5_countCrowdedPaths_10 : decode cX5_countCrowdedPaths 10 = .ok (.if_icmp .ge 22, 3) := by decide +kernel
theorem dX5_countCrowdedPaths_13 : decode cX5_countCrowdedPaths 13 = .ok (.aload_n 0, 1) := by decide +kernel
theorem dX5_countCrowdedPaths_14 : decode cX5_countCrowdedPaths 14 = .ok (.getfield 28, 3) := by decide +kernel
theorem dX5_countCrowdedPaths_17 : decode cX5_countCrowdedPaths 17 = .ok (.iload_n 2, 1) := by decide +kernel
theorem dX5_countCrowdedPaths_18 : decode cX5_countCrowdedPaths 18 = .ok (.iaload, 1) := by decide +kernel
theorem dX5_countCrowdedPaths_19 : decode cX5_countCrowdedPaths 19 = .ok (.iconst 1, 1) := by decide +kernel
theorem dX5_countCrowdedPaths_20 : decode cX5_countCrowdedPaths 20 = .ok (.if_icmp .le 6, 3) := by decide +kernel
theorem dX5_countCrowdedPaths_23 : decode cX5_countCrowdedPaths 23 = .ok (.iinc 1 1, 3) := by decide +kernel
theorem dX5_countCrowdedPaths_26 : decode cX5_countCrowdedPaths 26 = .ok (.iinc 2 1, 3) := by decide +kernel
theorem dX5_countCrowdedPaths_29 : decode cX5_countCrowdedPaths 29 = .ok (.goto (-25), 3) := by decide +kernel
theorem dX5_countCrowdedPaths_32 : decode cX5_countCrowdedPaths 32 = .ok (.iload_n 1, 1) := by decide +kernel
theorem dX5_countCrowdedPaths_33 : decode cX5_countCrowdedPaths 33 = .ok (.ireturn, 1) := by decide +kernel
theorem dX6_init_0 : decode cX6_init 0 = .ok (.aload_n 0, 1) := by decide +kernel
theorem dX6_init_1 : decode cX6_init 1 = .ok (.invokespecial 1, 3) := by decide +kernel
theorem dX6_init_4 : decode cX6_init 4 = .ok (.aload_n 0, 1) := by decide +kernel
theorem dX6_init_5 : decode cX6_init 5 = .ok (.new 7, 3) := by decide +kernel
theorem dX6_init_8 : decode cX6_init 8 = .ok (.dup, 1) := by decide +kernel
theorem dX6_init_9 : decode cX6_init 9 = .ok (.invokespecial 9, 3) := by decide +kernel
theorem dX6_init_12 : decode cX6_init 12 = .ok (.putfield 10, 3) := by decide +kernel
theorem dX6_init_15 : decode cX6_init 15 = .ok (.aload_n 0, 1) := by decide +kernel
theorem dX6_init_16 : decode cX6_init 16 = .ok (.new 16, 3) := by decide +kernel
theorem dX6_init_19 : decode cX6_init 19 = .ok (.dup, 1) := by decide +kernel
theorem dX6_init_20 : decode cX6_init 20 = .ok (.invokespecial 18, 3) := by decide +kernel
theorem dX6_init_23 : decode cX6_init 23 = .ok (.putfield 19, 3) := by decide +kernel
theorem dX6_init_26 : decode cX6_init 26 = .ok (.aload_n 0, 1) := by decide +kernel
theorem dX6_init_27 : decode cX6_init 27 = .ok (.new 23, 3) := by decide +kernel
theorem dX6_init_30 : decode cX6_init 30 = .ok (.dup, 1) := by decide +kernel
theorem dX6_init_31 : decode cX6_init 31 = .ok (.invokespecial 25, 3) := by decide +kernel
theorem dX6_init_34 : decode cX6_init 34 = .ok (.putfield 26, 3) := by decide +kernel
theorem dX6_init_37 : decode cX6_init 37 = .ok (.aload_n 0, 1) := by decide +kernel
theorem dX6_init_38 : decode cX6_init 38 = .ok (.new 30, 3) := by decide +kernel
theorem dX6_init_41 : decode cX6_init 41 = .ok (.dup, 1) := by decide +kernel
theorem dX6_init_42 : decode cX6_init 42 = .ok (.invokespecial 32, 3) := by decide +kernel
theorem dX6_init_45 : decode cX6_init 45 = .ok (.putfield 33, 3) := by decide +kernel
theorem dX6_init_48 : decode cX6_init 48 = .ok (.aload_n 0, 1) := by decide +kernel
theorem dX6_init_49 : decode cX6_init 49 = .ok (.iconst 5, 1) := by decide +kernel
theorem dX6_init_50 : decode cX6_init 50 = .ok (.newarray .int, 2) := by decide +kernel
theorem dX6_init_52 : decode cX6_init 52 = .ok (.putfield 37, 3) := by decide +kernel
theorem dX6_init_55 : decode cX6_init 55 = .ok (.aload_n 0, 1) := by decide +kernel
theorem dX6_init_56 : decode cX6_init 56 = .ok (.bipush 60, 2) := by decide +kernel
theorem dX6_init_58 : decode cX6_init 58 = .ok (.newarray .int, 2) := by decide +kernel
theorem dX6_init_60 : decode cX6_init 60 = .ok (.putfield 41, 3) := by decide +kernel
theorem dX6_init_63 : decode cX6_init 63 = .ok (.iconst 1, 1) := by decide +kernel
theorem dX6_init_64 : decode cX6_init 64 = .ok (.istore_n 1, 1) := by decide +kernel
theorem dX6_init_65 : decode cX6_init 65 = .ok (.iload_n 1, 1) := by decide +kernel
theorem dX6_init_66 : decode cX6_init 66 = .ok (.aload_n 0, 1) := by decide +kernel
theorem dX6_init_67 : decode cX6_init 67 = .ok (.getfield 37, 3) := by decide +kernel
theorem dX6_init_70 : decode cX6_init 70 = .ok (.arraylength, 1) := by decide +kernel
theorem dX6_init_71 : decode cX6_init 71 = .ok (.if_icmp .ge 16, 3) := by decide +kernel
theorem dX6_init_74 : decode cX6_init 74 = .ok (.aload_n 0, 1) := by decide +kernel
theorem dX6_init_75 : decode cX6_init 75 = .ok (.getfield 37, 3) := by decide +kernel
theorem dX6_init_78 : decode cX6_init 78 = .ok (.iload_n 1, 1) := by decide +kernel
theorem dX6_init_79 : decode cX6_init 79 = .ok (.iconst (-1), 1) := by decide +kernel
theorem dX6_init_80 : decode cX6_init 80 = .ok (.iastore, 1) := by decide +kernel
theorem dX6_init_81 : decode cX6_init 81 = .ok (.iinc 1 1, 3) := by decide +kernel
theorem dX6_init_84 : decode cX6_init 84 = .ok (.goto (-19), 3) := by decide +kernel
theorem dX6_init_87 : decode cX6_init 87 = .ok (.aload_n 0, 1) := by decide +kernel
theorem dX6_init_88 : decode cX6_init 88 = .ok (.getfield 37, 3) := by decide +kernel
theorem dX6_init_91 : decode cX6_init 91 = .ok (.iconst 0, 1) := by decide +kernel
theorem dX6_init_92 : decode cX6_init 92 = .ok (.iconst 0, 1) := by decide +kernel
theorem dX6_init_93 : decode cX6_init 93 = .ok (.iastore, 1) := by decide +kernel
theorem dX6_init_94 : decode cX6_init 94 = .ok (.aload_n 0, 1) := by decide +kernel
theorem dX6_init_95 : decode cX6_init 95 = .ok (.iconst 0, 1) := by decide +kernel
theorem dX6_init_96 : decode cX6_init 96 = .ok (.putfield 44, 3) := by decide +kernel
theorem dX6_init_99 : decode cX6_init 99 = .ok (.return_, 1) := by decide +kernel
theorem dX6_write_0 : decode cX6_write 0 = .ok (.iload_n 1, 1) := by decide +kernel
theorem dX6_write_1 : decode cX6_write 1 = .ok (.invokestatic 48, 3) := by decide +kernel
theorem dX6_write_4 : decode cX6_write 4 = .ok (.iload_n 2, 1) := by decide +kernel
theorem dX6_write_5 : decode cX6_write 5 = .ok (.ifCond .lt 10, 3) := by decide +kernel
theorem dX6_write_8 : decode cX6_write 8 = .ok (.iload_n 2, 1) := by decide +kernel
theorem dX6_write_9 : decode cX6_write 9 = .ok (.sipush 10000, 3) := by decide +kernel
theorem dX6_write_12 : decode cX6_write 12 = .ok (.if_icmp .lt 13, 3) := by decide +kernel
theorem dX6_write_15 : decode cX6_write 15 = .ok (.new 52, 3) := by decide +kernel
theorem dX6_write_18 : decode cX6_write 18 = .ok (.dup, 1) := by decide +kernel
theorem dX6_write_19 : decode cX6_write 19 = .ok (.ldc 54, 2) := by decide +kernel
theorem dX6_write_21 : decode cX6_write 21 = .ok (.invokespecial 56, 3) := by decide +kernel
theorem dX6_write_24 : decode cX6_write 24 = .ok (.athrow, 1) := by decide +kernel
theorem dX6_write_25 : decode cX6_write 25 = .ok (.aload_n 0, 1) := by decide +kernel
theorem dX6_write_26 : decode cX6_write 26 = .ok (.getfield 33, 3) := by decide +kernel
theorem dX6_write_29 : decode cX6_write 29 = .ok (.iload_n 1, 1) := by decide +kernel
theorem dX6_write_30 : decode cX6_write 30 = .ok (.invokevirtual 59, 3) := by decide +kernel
theorem dX6_write_33 : decode cX6_write 33 = .ok (.istore_n 3, 1) := by decide +kernel
theorem dX6_write_34 : decode cX6_write 34 = .ok (.aload_n 0, 1) := by decide +kernel
theorem dX6_write_35 : decode cX6_write 35 = .ok (.getfield 33, 3) := by decide +kernel
theorem dX6_write_38 : decode cX6_write 38 = .ok (.iload_n 1, 1) := by decide +kernel
theorem dX6_write_39 : decode cX6_write 39 = .ok (.iload_n 2, 1) := by decide +kernel
theorem dX6_write_40 : decode cX6_write 40 = .ok (.invokevirtual 63, 3) := by decide +kernel
theorem dX6_write_43 : decode cX6_write 43 = .ok (.iload_n 3, 1) := by decide +kernel
theorem dX6_write_44 : decode cX6_write 44 = .ok (.ireturn, 1) := by decide +kernel
theorem dX6_erase_0 : decode cX6_erase 0 = .ok (.iload_n 1, 1) := by decide +kernel
theorem dX6_erase_1 : decode cX6_erase 1 = .ok (.invokestatic 48, 3) := by decide +kernel
theorem dX6_erase_4 : decode cX6_erase 4 = .ok (.aload_n 0, 1) := by decide +kernel
theorem dX6_erase_5 : decode cX6_erase 5 = .ok (.getfield 33, 3) := by decide +kernel
theorem dX6_erase_8 : decode cX6_erase 8 = .ok (.iload_n 1, 1) := by decide +kernel
theorem dX6_erase_9 : decode cX6_erase 9 = .ok (.invokestatic 67, 3) := by decide +kernel
theorem dX6_erase_12 : decode cX6_erase 12 = .ok (.istore_n 2, 1) := by decide +kernel
theorem dX6_erase_13 : decode cX6_erase 13 = .ok (.aload_n 0, 1) := by decide +kernel
theorem dX6_erase_14 : decode cX6_erase 14 = .ok (.getfield 33, 3) := by decide +kernel
theorem dX6_erase_17 : decode cX6_erase 17 = .ok (.iload_n 1, 1) := by decide +kernel
theorem dX6_erase_18 : decode cX6_erase 18 = .ok (.iconst (-1), 1) := by decide +kernel
theorem dX6_erase_19 : decode cX6_erase 19 = .ok (.invokevirtual 63, 3) := by decide +kernel
theorem dX6_erase_22 : decode cX6_erase 22 = .ok (.iload_n 2, 1) := by decide +kernel
theorem dX6_erase_23 : decode cX6_erase 23 = .ok (.ireturn, 1) := by decide +kernel
theorem dX6_move_0 : decode cX6_move 0 = .ok (.iload_n 1, 1) := by decide +kernel
theorem dX6_move_1 : decode cX6_move 1 = .ok (.invokestatic 48, 3) := by decide +kernel
theorem dX6_move_4 : decode cX6_move 4 = .ok (.iload_n 2, 1) := by decide +kernel
theorem dX6_move_5 : decode cX6_move 5 = .ok (.invokestatic 48, 3) := by decide +kernel
theorem dX6_move_8 : decode cX6_move 8 = .ok (.aload_n 0, 1) := by decide +kernel
theorem dX6_move_9 : decode cX6_move 9 = .ok (.getfield 33, 3) := by decide +kernel
theorem dX6_move_12 : decode cX6_move 12 = .ok (.iload_n 1, 1) := by decide +kernel
theorem dX6_move_13 : decode cX6_move 13 = .ok (.invokestatic 67, 3) := by decide +kernel
theorem dX6_move_16 : decode cX6_move 16 = .ok (.istore_n 3, 1) := by decide +kernel
theorem dX6_move_17 : decode cX6_move 17 = .ok (.aload_n 0, 1) := by decide +kernel
theorem dX6_move_18 : decode cX6_move 18 = .ok (.getfield 33, 3) := by decide +kernel
theorem dX6_move_21 : decode cX6_move 21 = .ok (.iload_n 2, 1) := by decide +kernel
theorem dX6_move_22 : decode cX6_move 22 = .ok (.invokevirtual 59, 3) := by decide +kernel
theorem dX6_move_25 : decode cX6_move 25 = .ok (.iconst (-1), 1) := by decide +kernel
theorem dX6_move_26 : decode cX6_move 26 = .ok (.if_icmp .eq 13, 3) := by decide +kernel
theorem dX6_move_29 : decode cX6_move 29 = .ok (.new 71, 3) := by decide +kernel
theorem dX6_move_32 : decode cX6_move 32 = .ok (.dup, 1) := by decide +kernel
theorem dX6_move_33 : decode cX6_move 33 = .ok (.ldc 73, 2) := by decide +kernel
theorem dX6_move_35 : decode cX6_move 35 = .ok (.invokespecial 75, 3) := by decide +kernel
theorem dX6_move_38 : decode cX6_move 38 = .ok (.athrow, 1) := by decide +kernel
theorem dX6_move_39 : decode cX6_move 39 = .ok (.aload_n 0, 1) := by decide +kernel
theorem dX6_move_40 : decode cX6_move 40 = .ok (.getfield 33, 3) := by decide +kernel
theorem dX6_move_43 : decode cX6_move 43 = .ok (.iload_n 1, 1) := by decide +kernel
theorem dX6_move_44 : decode cX6_move 44 = .ok (.iconst (-1), 1) := by decide +kernel
theorem dX6_move_45 : decode cX6_move 45 = .ok (.invokevirtual 63, 3) := by decide +kernel
theorem dX6_move_48 : decode cX6_move 48 = .ok (.aload_n 0, 1) := by decide +kernel
theorem dX6_move_49 : decode cX6_move 49 = .ok (.getfield 33, 3) := by decide +kernel
theorem dX6_move_52 : decode cX6_move 52 = .ok (.iload_n 2, 1) := by decide +kernel
theorem dX6_move_53 : decode cX6_move 53 = .ok (.iload_n 3, 1) := by decide +kernel
theorem dX6_move_54 : decode cX6_move 54 = .ok (.invokevirtual 63, 3) := by decide +kernel
theorem dX6_move_57 : decode cX6_move 57 = .ok (.iload_n 3, 1) := by decide +kernel
theorem dX6_move_58 : decode cX6_move 58 = .ok (.ireturn, 1) := by decide +kernel
theorem dX6_content_0 : decode cX6_content 0 = .ok (.iload_n 1, 1) := by decide +kernel
theorem dX6_content_1 : decode cX6_content 1 = .ok (.invokestatic 48, 3) := by decide +kernel
theorem dX6_content_4 : decode cX6_content 4 = .ok (.aload_n 0, 1) := by decide +kernel
theorem dX6_content_5 : decode cX6_content 5 = .ok (.getfield 33, 3) := by decide +kernel
theorem dX6_content_8 : decode cX6_content 8 = .ok (.iload_n 1, 1) := by decide +kernel
theorem dX6_content_9 : decode cX6_content 9 = .ok (.invokestatic 67, 3) := by decide +kernel
theorem dX6_content_12 : decode cX6_content 12 = .ok (.ireturn, 1) := by decide +kernel
theorem dX6_changedPaths_0 : decode cX6_changedPaths 0 = .ok (.aload_n 0, 1) := by decide +kernel
theorem dX6_changedPaths_1 : decode cX6_changedPaths 1 = .ok (.getfield 33, 3) := by decide +kernel
theorem dX6_changedPaths_4 : decode cX6_changedPaths 4 = .ok (.aload_n 0, 1) := by decide +kernel
theorem dX6_changedPaths_5 : decode cX6_changedPaths 5 = .ok (.getfield 10, 3) := by decide +kernel
theorem dX6_changedPaths_8 : decode cX6_changedPaths 8 = .ok (.aload_n 0, 1) := by decide +kernel
theorem dX6_changedPaths_9 : decode cX6_changedPaths 9 = .ok (.aload_n 0, 1) := by decide +kernel
theorem dX6_changedPaths_10 : decode cX6_changedPaths 10 = .ok (.getfield 44, 3) := by decide +kernel
theorem dX6_changedPaths_13 : decode cX6_changedPaths 13 = .ok (.invokevirtual 76, 3) := by decide +kernel
theorem dX6_changedPaths_16 : decode cX6_changedPaths 16 = .ok (.invokevirtual 79, 3) := by decide +kernel
theorem dX6_changedPaths_19 : decode cX6_changedPaths 19 = .ok (.invokevirtual 83, 3) := by decide +kernel
theorem dX6_changedPaths_22 : decode cX6_changedPaths 22 = .ok (.ireturn, 1) := by decide +kernel
theorem dX6_commit_0 : decode cX6_commit 0 = .ok (.aload_n 0, 1) := by decide +kernel
theorem dX6_commit_1 : decode cX6_commit 1 = .ok (.invokevirtual 87, 3) := by decide +kernel
theorem dX6_commit_4 : decode cX6_commit 4 = .ok (.ifCond .ne 13, 3) := by decide +kernel
theorem dX6_commit_7 : decode cX6_commit 7 = .ok (.new 71, 3) := by decide +kernel
theorem dX6_commit_10 : decode cX6_commit 10 = .ok (.dup, 1) := by decide +kernel
theorem dX6_commit_11 : decode cX6_commit 11 = .ok (.ldc 91, 2) := by decide +kernel
theorem dX6_commit_13 : decode cX6_commit 13 = .ok (.invokespecial 75, 3) := by decide +kernel
theorem dX6_commit_16 : decode cX6_commit 16 = .ok (.athrow, 1) := by decide +kernel
theorem dX6_commit_17 : decode cX6_commit 17 = .ok (.aload_n 0, 1) := by decide +kernel
theorem dX6_commit_18 : decode cX6_commit 18 = .ok (.getfield 10, 3) := by decide +kernel
theorem dX6_commit_21 : decode cX6_commit 21 = .ok (.aload_n 0, 1) := by decide +kernel
theorem dX6_commit_22 : decode cX6_commit 22 = .ok (.getfield 33, 3) := by decide +kernel
theorem dX6_commit_25 : decode cX6_commit 25 = .ok (.aload_n 0, 1) := by decide +kernel
theorem dX6_commit_26 : decode cX6_commit 26 = .ok (.aload_n 0, 1) := by decide +kernel
theorem dX6_commit_27 : decode cX6_commit 27 = .ok (.getfield 44, 3) := by decide +kernel
theorem dX6_commit_30 : decode cX6_commit 30 = .ok (.invokevirtual 76, 3) := by decide +kernel
theorem dX6_commit_33 : decode cX6_commit 33 = .ok (.iconst (-1), 1) := by decide +kernel
theorem dX6_commit_34 : decode cX6_commit 34 = .ok (.invokevirtual 93, 3) := by decide +kernel
theorem dX6_commit_37 : decode cX6_commit 37 = .ok (.istore_n 1, 1) := by decide +kernel
theorem dX6_commit_38 : decode cX6_commit 38 = .ok (.iload_n 1, 1) := by decide +kernel
theorem dX6_commit_39 : decode cX6_commit 39 = .ok (.iconst (-1), 1) := by decide +kernel
theorem dX6_commit_40 : decode cX6_commit 40 = .ok (.if_icmp .ne 13, 3) := by decide +kernel
theorem dX6_commit_43 : decode cX6_commit 43 = .ok (.new 71, 3) := by decide +kernel
theorem dX6_commit_46 : decode cX6_commit 46 = .ok (.dup, 1) := by decide +kernel
theorem dX6_commit_47 : decode cX6_commit 47 = .ok (.ldc 97, 2) := by decide +kernel
theorem dX6_commit_49 : decode cX6_commit 49 = .ok (.invokespecial 75, 3) := by decide +kernel
theorem dX6_commit_52 : decode cX6_commit 52 = .ok (.athrow, 1) := by decide +kernel
theorem dX6_commit_53 : decode cX6_commit 53 = .ok (.aload_n 0, 1) := by decide +kernel
theorem dX6_commit_54 : decode cX6_commit 54 = .ok (.iload_n 1, 1) := by decide +kernel
theorem dX6_commit_55 : decode cX6_commit 55 = .ok (.invokevirtual 99, 3) := by decide +kernel
theorem dX6_commit_58 : decode cX6_commit 58 = .ok (.iload_n 1, 1) := by decide +kernel
theorem dX6_commit_59 : decode cX6_commit 59 = .ok (.ireturn, 1) := by decide +kernel
theorem dX6_branch_0 : decode cX6_branch 0 = .ok (.iload_n 1, 1) := by decide +kernel
theorem dX6_branch_1 : decode cX6_branch 1 = .ok (.invokestatic 102, 3) := by decide +kernel
theorem dX6_branch_4 : decode cX6_branch 4 = .ok (.ifCond .ne 13, 3) := by decide +kernel
theorem dX6_branch_7 : decode cX6_branch 7 = .ok (.new 106, 3) := by decide +kernel
theorem dX6_branch_10 : decode cX6_branch 10 = .ok (.dup, 1) := by decide +kernel
theorem dX6_branch_11 : decode cX6_branch 11 = .ok (.ldc 108, 2) := by decide +kernel
theorem dX6_branch_13 : decode cX6_branch 13 = .ok (.invokespecial 110, 3) := by decide +kernel
theorem dX6_branch_16 : decode cX6_branch 16 = .ok (.athrow, 1) := by decide +kernel
theorem dX6_branch_17 : decode cX6_branch 17 = .ok (.aload_n 0, 1) := by decide +kernel
theorem dX6_branch_18 : decode cX6_branch 18 = .ok (.getfield 37, 3) := by decide +kernel
theorem dX6_branch_21 : decode cX6_branch 21 = .ok (.iload_n 1, 1) := by decide +kernel
theorem dX6_branch_22 : decode cX6_branch 22 = .ok (.iaload, 1) := by decide +kernel
theorem dX6_branch_23 : decode cX6_branch 23 = .ok (.iconst (-1), 1) := by decide +kernel
theorem dX6_branch_24 : decode cX6_branch 24 = .ok (.if_icmp .eq 13, 3) := by decide +kernel
theorem dX6_branch_27 : decode cX6_branch 27 = .ok (.new 71, 3) := by decide +kernel
theorem dX6_branch_30 : decode cX6_branch 30 = .ok (.dup, 1) := by decide +kernel
theorem dX6_branch_31 : decode cX6_branch 31 = .ok (.ldc 111, 2) := by decide +kernel
theorem dX6_branch_33 : decode cX6_branch 33 = .ok (.invokespecial 75, 3) := by decide +kernel
theorem dX6_branch_36 : decode cX6_branch 36 = .ok (.athrow, 1) := by decide +kernel
theorem dX6_branch_37 : decode cX6_branch 37 = .ok (.aload_n 0, 1) := by decide +kernel
theorem dX6_branch_38 : decode cX6_branch 38 = .ok (.getfield 37, 3) := by decide +kernel
theorem dX6_branch_41 : decode cX6_branch 41 = .ok (.iload_n 1, 1) := by decide +kernel
theorem dX6_branch_42 : decode cX6_branch 42 = .ok (.aload_n 0, 1) := by decide +kernel
theorem dX6_branch_43 : decode cX6_branch 43 = .ok (.aload_n 0, 1) := by decide +kernel
theorem dX6_branch_44 : decode cX6_branch 44 = .ok (.getfield 44, 3) := by decide +kernel
theorem dX6_branch_47 : decode cX6_branch 47 = .ok (.invokevirtual 76, 3) := by decide +kernel
theorem dX6_branch_50 : decode cX6_branch 50 = .ok (.iastore, 1) := by decide +kernel
theorem dX6_branch_51 : decode cX6_branch 51 = .ok (.aload_n 0, 1) := by decide +kernel
theorem dX6_branch_52 : decode cX6_branch 52 = .ok (.getfield 37, 3) := by decide +kernel
theorem dX6_branch_55 : decode cX6_branch 55 = .ok (.iload_n 1, 1) := by decide +kernel
theorem dX6_branch_56 : decode cX6_branch 56 = .ok (.iaload, 1) := by decide +kernel
theorem dX6_branch_57 : decode cX6_branch 57 = .ok (.ireturn, 1) := by decide +kernel
theorem dX6_checkOut_0 : decode cX6_checkOut 0 = .ok (.aload_n 0, 1) := by decide +kernel
theorem dX6_checkOut_1 : decode cX6_checkOut 1 = .ok (.iload_n 1, 1) := by decide +kernel
theorem dX6_checkOut_2 : decode cX6_checkOut 2 = .ok (.invokevirtual 113, 3) := by decide +kernel
theorem dX6_checkOut_5 : decode cX6_checkOut 5 = .ok (.istore_n 2, 1) := by decide +kernel
theorem dX6_checkOut_6 : decode cX6_checkOut 6 = .ok (.aload_n 0, 1) := by decide +kernel
theorem dX6_checkOut_7 : decode cX6_checkOut 7 = .ok (.invokevirtual 116, 3) := by decide +kernel
theorem dX6_checkOut_10 : decode cX6_checkOut 10 = .ok (.aload_n 0, 1) := by decide +kernel
theorem dX6_checkOut_11 : decode cX6_checkOut 11 = .ok (.iload_n 1, 1) := by decide +kernel
theorem dX6_checkOut_12 : decode cX6_checkOut 12 = .ok (.putfield 44, 3) := by decide +kernel
theorem dX6_checkOut_15 : decode cX6_checkOut 15 = .ok (.aload_n 0, 1) := by decide +kernel
theorem dX6_checkOut_16 : decode cX6_checkOut 16 = .ok (.getfield 33, 3) := by decide +kernel
theorem dX6_checkOut_19 : decode cX6_checkOut 19 = .ok (.aload_n 0, 1) := by decide +kernel
theorem dX6_checkOut_20 : decode cX6_checkOut 20 = .ok (.getfield 10, 3) := by decide +kernel
theorem dX6_checkOut_23 : decode cX6_checkOut 23 = .ok (.iload_n 2, 1) := by decide +kernel
theorem dX6_checkOut_24 : decode cX6_checkOut 24 = .ok (.invokevirtual 79, 3) := by decide +kernel
theorem dX6_checkOut_27 : decode cX6_checkOut 27 = .ok (.invokevirtual 119, 3) := by decide +kernel
theorem dX6_checkOut_30 : decode cX6_checkOut 30 = .ok (.iload_n 2, 1) := by decide +kernel
theorem dX6_checkOut_31 : decode cX6_checkOut 31 = .ok (.ireturn, 1) := by decide +kernel
theorem dX6_reset_0 : decode cX6_reset 0 = .ok (.aload_n 0, 1) := by decide +kernel
theorem dX6_reset_1 : decode cX6_reset 1 = .ok (.iload_n 1, 1) := by decide +kernel
theorem dX6_reset_2 : decode cX6_reset 2 = .ok (.invokevirtual 123, 3) := by decide +kernel
theorem dX6_reset_5 : decode cX6_reset 5 = .ok (.aload_n 0, 1) := by decide +kernel
theorem dX6_reset_6 : decode cX6_reset 6 = .ok (.aload_n 0, 1) := by decide +kernel
theorem dX6_reset_7 : decode cX6_reset 7 = .ok (.getfield 44, 3) := by decide +kernel
theorem dX6_reset_10 : decode cX6_reset 10 = .ok (.invokevirtual 76, 3) := by decide +kernel
theorem dX6_reset_13 : decode cX6_reset 13 = .ok (.istore_n 2, 1) := by decide +kernel
theorem dX6_reset_14 : decode cX6_reset 14 = .ok (.aload_n 0, 1) := by decide +kernel
theorem dX6_reset_15 : decode cX6_reset 15 = .ok (.iload_n 1, 1) := by decide +kernel
theorem dX6_reset_16 : decode cX6_reset 16 = .ok (.invokevirtual 99, 3) := by decide +kernel
theorem dX6_reset_19 : decode cX6_reset 19 = .ok (.iload_n 2, 1) := by decide +kernel
theorem dX6_reset_20 : decode cX6_reset 20 = .ok (.ireturn, 1) := by decide +kernel
theorem dX6_merge_0 : decode cX6_merge 0 = .ok (.aload_n 0, 1) := by decide +kernel
theorem dX6_merge_1 : decode cX6_merge 1 = .ok (.iload_n 1, 1) := by decide +kernel
theorem dX6_merge_2 : decode cX6_merge 2 = .ok (.invokevirtual 113, 3) := by decide +kernel
theorem dX6_merge_5 : decode cX6_merge 5 = .ok (.istore_n 2, 1) := by decide +kernel
theorem dX6_merge_6 : decode cX6_merge 6 = .ok (.aload_n 0, 1) := by decide +kernel
theorem dX6_merge_7 : decode cX6_merge 7 = .ok (.invokevirtual 116, 3) := by decide +kernel
theorem dX6_merge_10 : decode cX6_merge 10 = .ok (.aload_n 0, 1) := by decide +kernel
theorem dX6_merge_11 : decode cX6_merge 11 = .ok (.aload_n 0, 1) := by decide +kernel
theorem dX6_merge_12 : decode cX6_merge 12 = .ok (.getfield 44, 3) := by decide +kernel
theorem dX6_merge_15 : decode cX6_merge 15 = .ok (.invokevirtual 76, 3) := by decide +kernel
theorem dX6_merge_18 : decode cX6_merge 18 = .ok (.istore_n 3, 1) := by decide +kernel
theorem dX6_merge_19 : decode cX6_merge 19 = .ok (.aload_n 0, 1) := by decide +kernel
theorem dX6_merge_20 : decode cX6_merge 20 = .ok (.getfield 10, 3) := by decide +kernel
theorem dX6_merge_23 : decode cX6_merge 23 = .ok (.iload_n 3, 1) := by decide +kernel
theorem dX6_merge_24 : decode cX6_merge 24 = .ok (.iload_n 2, 1) := by decide +kernel
theorem dX6_merge_25 : decode cX6_merge 25 = .ok (.invokevirtual 126, 3) := by decide +kernel
theorem dX6_merge_28 : decode cX6_merge 28 = .ok (.ifCond .eq 13, 3) := by decide +kernel
theorem dX6_merge_31 : decode cX6_merge 31 = .ok (.new 71, 3) := by decide +kernel
theorem dX6_merge_34 : decode cX6_merge 34 = .ok (.dup, 1) := by decide +kernel
theorem dX6_merge_35 : decode cX6_merge 35 = .ok (.ldc 130, 2) := by decide +kernel
theorem dX6_merge_37 : decode cX6_merge 37 = .ok (.invokespecial 75, 3) := by decide +kernel
theorem dX6_merge_40 : decode cX6_merge 40 = .ok (.athrow, 1) := by decide +kernel
theorem dX6_merge_41 : decode cX6_merge 41 = .ok (.aload_n 0, 1) := by decide +kernel
theorem dX6_merge_42 : decode cX6_merge 42 = .ok (.getfield 10, 3) := by decide +kernel
theorem dX6_merge_45 : decode cX6_merge 45 = .ok (.iload_n 2, 1) := by decide +kernel
theorem dX6_merge_46 : decode cX6_merge 46 = .ok (.iload_n 3, 1) := by decide +kernel
theorem dX6_merge_47 : decode cX6_merge 47 = .ok (.invokevirtual 126, 3) := by decide +kernel
theorem dX6_merge_50 : decode cX6_merge 50 = .ok (.ifCond .eq 7, 3) := by decide +kernel
theorem dX6_merge_53 : decode cX6_merge 53 = .ok (.iload_n 2, 1) := by decide +kernel
theorem dX6_merge_54 : decode cX6_merge 54 = .ok (.goto 9, 3) := by decide +kernel
theorem dX6_merge_57 : decode cX6_merge 57 = .ok (.aload_n 0, 1) := by decide +kernel
theorem dX6_merge_58 : decode cX6_merge 58 = .ok (.iload_n 3, 1) := by decide +kernel
theorem dX6_merge_59 : decode cX6_merge 59 = .ok (.iload_n 2, 1) := by decide +kernel
theorem dX6_merge_60 : decode cX6_merge 60 = .ok (.invokevirtual 132, 3) := by decide +kernel
theorem dX6_merge_63 : decode cX6_merge 63 = .ok (.istore 4, 2) := by decide +kernel
theorem dX6_merge_65 : decode cX6_merge 65 = .ok (.iload 4, 2) := by decide +kernel
theorem dX6_merge_67 : decode cX6_merge 67 = .ok (.iconst (-1), 1) := by decide +kernel
theorem dX6_merge_68 : decode cX6_merge 68 = .ok (.if_icmp .ne 13, 3) := by decide +kernel
theorem dX6_merge_71 : decode cX6_merge 71 = .ok (.new 136, 3) := by decide +kernel
theorem dX6_merge_74 : decode cX6_merge 74 = .ok (.dup, 1) := by decide +kernel
theorem dX6_merge_75 : decode cX6_merge 75 = .ok (.ldc 138, 2) := by decide +kernel
theorem dX6_merge_77 : decode cX6_merge 77 = .ok (.invokespecial 140, 3) := by decide +kernel
theorem dX6_merge_80 : decode cX6_merge 80 = .ok (.athrow, 1) := by decide +kernel
theorem dX6_merge_81 : decode cX6_merge 81 = .ok (.aload_n 0, 1) := by decide +kernel
theorem dX6_merge_82 : decode cX6_merge 82 = .ok (.iload 4, 2) := by decide +kernel
theorem dX6_merge_84 : decode cX6_merge 84 = .ok (.invokevirtual 99, 3) := by decide +kernel
theorem dX6_merge_87 : decode cX6_merge 87 = .ok (.iload 4, 2) := by decide +kernel
theorem dX6_merge_89 : decode cX6_merge 89 = .ok (.ireturn, 1) := by decide +kernel
theorem dX6_putOnto_0 : decode cX6_putOnto 0 = .ok (.aload_n 0, 1) := by decide +kernel
theorem dX6_putOnto_1 : decode cX6_putOnto 1 = .ok (.iload_n 1, 1) := by decide +kernel
theorem dX6_putOnto_2 : decode cX6_putOnto 2 = .ok (.invokevirtual 113, 3) := by decide +kernel
theorem dX6_putOnto_5 : decode cX6_putOnto 5 = .ok (.istore_n 2, 1) := by decide +kernel
theorem dX6_putOnto_6 : decode cX6_putOnto 6 = .ok (.aload_n 0, 1) := by decide +kernel
theorem dX6_putOnto_7 : decode cX6_putOnto 7 = .ok (.invokevirtual 116, 3) := by decide +kernel
theorem dX6_putOnto_10 : decode cX6_putOnto 10 = .ok (.aload_n 0, 1) := by decide +kernel
theorem dX6_putOnto_11 : decode cX6_putOnto 11 = .ok (.aload_n 0, 1) := by decide +kernel
theorem dX6_putOnto_12 : decode cX6_putOnto 12 = .ok (.getfield 44, 3) := by decide +kernel
theorem dX6_putOnto_15 : decode cX6_putOnto 15 = .ok (.invokevirtual 76, 3) := by decide +kernel
theorem dX6_putOnto_18 : decode cX6_putOnto 18 = .ok (.istore_n 3, 1) := by decide +kernel
theorem dX6_putOnto_19 : decode cX6_putOnto 19 = .ok (.aload_n 0, 1) := by decide +kernel
theorem dX6_putOnto_20 : decode cX6_putOnto 20 = .ok (.getfield 10, 3) := by decide +kernel
theorem dX6_putOnto_23 : decode cX6_putOnto 23 = .ok (.iload_n 2, 1) := by decide +kernel
theorem dX6_putOnto_24 : decode cX6_putOnto 24 = .ok (.iload_n 3, 1) := by decide +kernel
theorem dX6_putOnto_25 : decode cX6_putOnto 25 = .ok (.invokevirtual 126, 3) := by decide +kernel
theorem dX6_putOnto_28 : decode cX6_putOnto 28 = .ok (.ifCond .eq 13, 3) := by decide +kernel
theorem dX6_putOnto_31 : decode cX6_putOnto 31 = .ok (.new 71, 3) := by decide +kernel
theorem dX6_putOnto_34 : decode cX6_putOnto 34 = .ok (.dup, 1) := by decide +kernel
theorem dX6_putOnto_35 : decode cX6_putOnto 35 = .ok (.ldc 141, 2) := by decide +kernel
theorem dX6_putOnto_37 : decode cX6_putOnto 37 = .ok (.invokespecial 75, 3) := by decide +kernel
theorem dX6_putOnto_40 : decode cX6_putOnto 40 = .ok (.athrow, 1) := by decide +kernel
theorem dX6_putOnto_41 : decode cX6_putOnto 41 = .ok (.aload_n 0, 1) := by decide +kernel
theorem dX6_putOnto_42 : decode cX6_putOnto 42 = .ok (.getfield 10, 3) := by decide +kernel
theorem dX6_putOnto_45 : decode cX6_putOnto 45 = .ok (.invokevirtual 143, 3) := by decide +kernel
theorem dX6_putOnto_48 : decode cX6_putOnto 48 = .ok (.istore 4, 2) := by decide +kernel
theorem dX6_putOnto_50 : decode cX6_putOnto 50 = .ok (.aload_n 0, 1) := by decide +kernel
theorem dX6_putOnto_51 : decode cX6_putOnto 51 = .ok (.iload_n 2, 1) := by decide +kernel
theorem dX6_putOnto_52 : decode cX6_putOnto 52 = .ok (.iload_n 3, 1) := by decide +kernel
theorem dX6_putOnto_53 : decode cX6_putOnto 53 = .ok (.invokevirtual 146, 3) := by decide +kernel
theorem dX6_putOnto_56 : decode cX6_putOnto 56 = .ok (.istore 5, 2) := by decide +kernel
theorem dX6_putOnto_58 : decode cX6_putOnto 58 = .ok (.aload_n 0, 1) := by decide +kernel
theorem dX6_putOnto_59 : decode cX6_putOnto 59 = .ok (.iload 5, 2) := by decide +kernel
theorem dX6_putOnto_61 : decode cX6_putOnto 61 = .ok (.iload_n 2, 1) := by decide +kernel
theorem dX6_putOnto_62 : decode cX6_putOnto 62 = .ok (.invokevirtual 149, 3) := by decide +kernel
theorem dX6_putOnto_65 : decode cX6_putOnto 65 = .ok (.istore 6, 2) := by decide +kernel
theorem dX6_putOnto_67 : decode cX6_putOnto 67 = .ok (.iload 6, 2) := by decide +kernel
theorem dX6_putOnto_69 : decode cX6_putOnto 69 = .ok (.iconst (-1), 1) := by decide +kernel
theorem dX6_putOnto_70 : decode cX6_putOnto 70 = .ok (.if_icmp .ne 22, 3) := by decide +kernel
theorem dX6_putOnto_73 : decode cX6_putOnto 73 = .ok (.aload_n 0, 1) := by decide +kernel
theorem dX6_putOnto_74 : decode cX6_putOnto 74 = .ok (.getfield 10, 3) := by decide +kernel
theorem dX6_putOnto_77 : decode cX6_putOnto 77 = .ok (.iload 4, 2) := by decide +kernel
theorem dX6_putOnto_79 : decode cX6_putOnto 79 = .ok (.invokevirtual 152, 3) := by decide +kernel
theorem dX6_putOnto_82 : decode cX6_putOnto 82 = .ok (.new 136, 3) := by decide +kernel
theorem dX6_putOnto_85 : decode cX6_putOnto 85 = .ok (.dup, 1) := by decide +kernel
theorem dX6_putOnto_86 : decode cX6_putOnto 86 = .ok (.ldc 138, 2) := by decide +kernel
theorem dX6_putOnto_88 : decode cX6_putOnto 88 = .ok (.invokespecial 140, 3) := by decide +kernel
theorem dX6_putOnto_91 : decode cX6_putOnto 91 = .ok (.athrow, 1) := by decide +kernel
theorem dX6_putOnto_92 : decode cX6_putOnto 92 = .ok (.aload_n 0, 1) := by decide +kernel
theorem dX6_putOnto_93 : decode cX6_putOnto 93 = .ok (.iload 6, 2) := by decide +kernel
theorem dX6_putOnto_95 : decode cX6_putOnto 95 = .ok (.invokevirtual 99, 3) := by decide +kernel
theorem dX6_putOnto_98 : decode cX6_putOnto 98 = .ok (.iload 5, 2) := by decide +kernel
theorem dX6_putOnto_100 : decode cX6_putOnto 100 = .ok (.ireturn, 1) := by decide +kernel
theorem dX6_currentBranch_0 : decode cX6_currentBranch 0 = .ok (.aload_n 0, 1) := by decide +kernel
theorem dX6_currentBranch_1 : decode cX6_currentBranch 1 = .ok (.getfield 44, 3) := by decide +kernel
theorem dX6_currentBranch_4 : decode cX6_currentBranch 4 = .ok (.ireturn, 1) := by decide +kernel
theorem dX6_head_0 : decode cX6_head 0 = .ok (.aload_n 0, 1) := by decide +kernel
theorem dX6_head_1 : decode cX6_head 1 = .ok (.iload_n 1, 1) := by decide +kernel
theorem dX6_head_2 : decode cX6_head 2 = .ok (.invokevirtual 113, 3) := by decide +kernel
theorem dX6_head_5 : decode cX6_head 5 = .ok (.ireturn, 1) := by decide +kernel
theorem dX6_commits_0 : decode cX6_commits 0 = .ok (.aload_n 0, 1) := by decide +kernel
theorem dX6_commits_1 : decode cX6_commits 1 = .ok (.getfield 10, 3) := by decide +kernel
theorem dX6_commits_4 : decode cX6_commits 4 = .ok (.invokevirtual 143, 3) := by decide +kernel
theorem dX6_commits_7 : decode cX6_commits 7 = .ok (.ireturn, 1) := by decide +kernel
theorem dX6_contentIn_0 : decode cX6_contentIn 0 = .ok (.aload_n 0, 1) := by decide +kernel
theorem dX6_contentIn_1 : decode cX6_contentIn 1 = .ok (.iload_n 1, 1) := by decide +kernel
theorem dX6_contentIn_2 : decode cX6_contentIn 2 = .ok (.invokevirtual 123, 3) := by decide +kernel
theorem dX6_contentIn_5 : decode cX6_contentIn 5 = .ok (.iload_n 2, 1) := by decide +kernel
theorem dX6_contentIn_6 : decode cX6_contentIn 6 = .ok (.invokestatic 48, 3) := by decide +kernel
theorem dX6_contentIn_9 : decode cX6_contentIn 9 = .ok (.aload_n 0, 1) := by decide +kernel
theorem dX6_contentIn_10 : decode cX6_contentIn 10 = .ok (.getfield 10, 3) := by decide +kernel
theorem dX6_contentIn_13 : decode cX6_contentIn 13 = .ok (.iload_n 1, 1) := by decide +kernel
theorem dX6_contentIn_14 : decode cX6_contentIn 14 = .ok (.invokevirtual 79, 3) := by decide +kernel
theorem dX6_contentIn_17 : decode cX6_contentIn 17 = .ok (.iload_n 2, 1) := by decide +kernel
theorem dX6_contentIn_18 : decode cX6_contentIn 18 = .ok (.invokestatic 67, 3) := by decide +kernel
theorem dX6_contentIn_21 : decode cX6_contentIn 21 = .ok (.ireturn, 1) := by decide +kernel
theorem dX6_parentOf_0 : decode cX6_parentOf 0 = .ok (.aload_n 0, 1) := by decide +kernel
theorem dX6_parentOf_1 : decode cX6_parentOf 1 = .ok (.iload_n 1, 1) := by decide +kernel
theorem dX6_parentOf_2 : decode cX6_parentOf 2 = .ok (.invokevirtual 123, 3) := by decide +kernel
theorem dX6_parentOf_5 : decode cX6_parentOf 5 = .ok (.iload_n 2, 1) := by decide +kernel
theorem dX6_parentOf_6 : decode cX6_parentOf 6 = .ok (.ifCond .eq 18, 3) := by decide +kernel
theorem dX6_parentOf_9 : decode cX6_parentOf 9 = .ok (.iload_n 2, 1) := by decide +kernel
theorem dX6_parentOf_10 : decode cX6_parentOf 10 = .ok (.iconst 1, 1) := by decide +kernel
theorem dX6_parentOf_11 : decode cX6_parentOf 11 = .ok (.if_icmp .eq 13, 3) := by decide +kernel
theorem dX6_parentOf_14 : decode cX6_parentOf 14 = .ok (.new 106, 3) := by decide +kernel
theorem dX6_parentOf_17 : decode cX6_parentOf 17 = .ok (.dup, 1) := by decide +kernel
theorem dX6_parentOf_18 : decode cX6_parentOf 18 = .ok (.ldc 155, 2) := by decide +kernel
theorem dX6_parentOf_20 : decode cX6_parentOf 20 = .ok (.invokespecial 110, 3) := by decide +kernel
theorem dX6_parentOf_23 : decode cX6_parentOf 23 = .ok (.athrow, 1) := by decide +kernel
theorem dX6_parentOf_24 : decode cX6_parentOf 24 = .ok (.iload_n 2, 1) := by decide +kernel
theorem dX6_parentOf_25 : decode cX6_parentOf 25 = .ok (.ifCond .ne 14, 3) := by decide +kernel
theorem dX6_parentOf_28 : decode cX6_parentOf 28 = .ok (.aload_n 0, 1) := by decide +kernel
theorem dX6_parentOf_29 : decode cX6_parentOf 29 = .ok (.getfield 10, 3) := by decide +kernel
theorem dX6_parentOf_32 : decode cX6_parentOf 32 = .ok (.iload_n 1, 1) := by decide +kernel
theorem dX6_parentOf_33 : decode cX6_parentOf 33 = .ok (.invokevirtual 157, 3) := by decide +kernel
theorem dX6_parentOf_36 : decode cX6_parentOf 36 = .ok (.goto 11, 3) := by decide +kernel
theorem dX6_parentOf_39 : decode cX6_parentOf 39 = .ok (.aload_n 0, 1) := by decide +kernel
theorem dX6_parentOf_40 : decode cX6_parentOf 40 = .ok (.getfield 10, 3) := by decide +kernel
theorem dX6_parentOf_43 : decode cX6_parentOf 43 = .ok (.iload_n 1, 1) := by decide +kernel
theorem dX6_parentOf_44 : decode cX6_parentOf 44 = .ok (.invokevirtual 160, 3) := by decide +kernel
theorem dX6_parentOf_47 : decode cX6_parentOf 47 = .ok (.istore_n 3, 1) := by decide +kernel
theorem dX6_parentOf_48 : decode cX6_parentOf 48 = .ok (.iload_n 3, 1) := by decide +kernel
theorem dX6_parentOf_49 : decode cX6_parentOf 49 = .ok (.iconst (-1), 1) := by decide +kernel
theorem dX6_parentOf_50 : decode cX6_parentOf 50 = .ok (.if_icmp .ne 13, 3) := by decide +kernel
theorem dX6_parentOf_53 : decode cX6_parentOf 53 = .ok (.new 163, 3) := by decide +kernel
theorem dX6_parentOf_56 : decode cX6_parentOf 56 = .ok (.dup, 1) := by decide +kernel
theorem dX6_parentOf_57 : decode cX6_parentOf 57 = .ok (.ldc 165, 2) := by decide +kernel
theorem dX6_parentOf_59 : decode cX6_parentOf 59 = .ok (.invokespecial 167, 3) := by decide +kernel
theorem dX6_parentOf_62 : decode cX6_parentOf 62 = .ok (.athrow, 1) := by decide +kernel
theorem dX6_parentOf_63 : decode cX6_parentOf 63 = .ok (.iload_n 3, 1) := by decide +kernel
theorem dX6_parentOf_64 : decode cX6_parentOf 64 = .ok (.ireturn, 1) := by decide +kernel
theorem dX6_generation_0 : decode cX6_generation 0 = .ok (.aload_n 0, 1) := by decide +kernel
theorem dX6_generation_1 : decode cX6_generation 1 = .ok (.iload_n 1, 1) := by decide +kernel
theorem dX6_generation_2 : decode cX6_generation 2 = .ok (.invokevirtual 123, 3) := by decide +kernel
theorem dX6_generation_5 : decode cX6_generation 5 = .ok (.aload_n 0, 1) := by decide +kernel
theorem dX6_generation_6 : decode cX6_generation 6 = .ok (.getfield 10, 3) := by decide +kernel
theorem dX6_generation_9 : decode cX6_generation 9 = .ok (.iload_n 1, 1) := by decide +kernel
theorem dX6_generation_10 : decode cX6_generation 10 = .ok (.invokevirtual 168, 3) := by decide +kernel
theorem dX6_generation_13 : decode cX6_generation 13 = .ok (.ireturn, 1) := by decide +kernel
theorem dX6_isAncestor_0 : decode cX6_isAncestor 0 = .ok (.aload_n 0, 1) := by decide +kernel
theorem dX6_isAncestor_1 : decode cX6_isAncestor 1 = .ok (.iload_n 1, 1) := by decide +kernel
theorem dX6_isAncestor_2 : decode cX6_isAncestor 2 = .ok (.invokevirtual 123, 3) := by decide +kernel
theorem dX6_isAncestor_5 : decode cX6_isAncestor 5 = .ok (.aload_n 0, 1) := by decide +kernel
theorem dX6_isAncestor_6 : decode cX6_isAncestor 6 = .ok (.iload_n 2, 1) := by decide +kernel
theorem dX6_isAncestor_7 : decode cX6_isAncestor 7 = .ok (.invokevirtual 123, 3) := by decide +kernel
theorem dX6_isAncestor_10 : decode cX6_isAncestor 10 = .ok (.aload_n 0, 1) := by decide +kernel
theorem dX6_isAncestor_11 : decode cX6_isAncestor 11 = .ok (.getfield 10, 3) := by decide +kernel
theorem dX6_isAncestor_14 : decode cX6_isAncestor 14 = .ok (.iload_n 2, 1) := by decide +kernel
theorem dX6_isAncestor_15 : decode cX6_isAncestor 15 = .ok (.iload_n 1, 1) := by decide +kernel
theorem dX6_isAncestor_16 : decode cX6_isAncestor 16 = .ok (.invokevirtual 126, 3) := by decide +kernel
theorem dX6_isAncestor_19 : decode cX6_isAncestor 19 = .ok (.ireturn, 1) := by decide +kernel
theorem dX6_isAncestorByWalking_0 : decode cX6_isAncestorByWalking 0 = .ok (.aload_n 0, 1) := by decide +kernel
theorem dX6_isAncestorByWalking_1 : decode cX6_isAncestorByWalking 1 = .ok (.iload_n 1, 1) := by decide +kernel
theorem dX6_isAncestorByWalking_2 : decode cX6_isAncestorByWalking 2 = .ok (.invokevirtual 123, 3) := by decide +kernel
theorem dX6_isAncestorByWalking_5 : decode cX6_isAncestorByWalking 5 = .ok (.aload_n 0, 1) := by decide +kernel
theorem dX6_isAncestorByWalking_6 : decode cX6_isAncestorByWalking 6 = .ok (.iload_n 2, 1) := by decide +kernel
theorem dX6_isAncestorByWalking_7 : decode cX6_isAncestorByWalking 7 = .ok (.invokevirtual 123, 3) := by decide +kernel
theorem dX6_isAncestorByWalking_10 : decode cX6_isAncestorByWalking 10 = .ok (.aload_n 0, 1) := by decide +kernel
theorem dX6_isAncestorByWalking_11 : decode cX6_isAncestorByWalking 11 = .ok (.getfield 10, 3) := by decide +kernel
theorem dX6_isAncestorByWalking_14 : decode cX6_isAncestorByWalking 14 = .ok (.iload_n 2, 1) := by decide +kernel
theorem dX6_isAncestorByWalking_15 : decode cX6_isAncestorByWalking 15 = .ok (.iload_n 1, 1) := by decide +kernel
theorem dX6_isAncestorByWalking_16 : decode cX6_isAncestorByWalking 16 = .ok (.invokevirtual 171, 3) := by decide +kernel
theorem dX6_isAncestorByWalking_19 : decode cX6_isAncestorByWalking 19 = .ok (.ireturn, 1) := by decide +kernel
theorem dX6_base_0 : decode cX6_base 0 = .ok (.aload_n 0, 1) := by decide +kernel
theorem dX6_base_1 : decode cX6_base 1 = .ok (.iload_n 1, 1) := by decide +kernel
theorem dX6_base_2 : decode cX6_base 2 = .ok (.invokevirtual 123, 3) := by decide +kernel
theorem dX6_base_5 : decode cX6_base 5 = .ok (.aload_n 0, 1) := by decide +kernel
theorem dX6_base_6 : decode cX6_base 6 = .ok (.iload_n 2, 1) := by decide +kernel
theorem dX6_base_7 : decode cX6_base 7 = .ok (.invokevirtual 123, 3) := by decide +kernel
theorem dX6_base_10 : decode cX6_base 10 = .ok (.aload_n 0, 1) := by decide +kernel
theorem dX6_base_11 : decode cX6_base 11 = .ok (.getfield 10, 3) := by decide +kernel
theorem dX6_base_14 : decode cX6_base 14 = .ok (.iload_n 1, 1) := by decide +kernel
theorem dX6_base_15 : decode cX6_base 15 = .ok (.iload_n 2, 1) := by decide +kernel
theorem dX6_base_16 : decode cX6_base 16 = .ok (.invokevirtual 174, 3) := by decide +kernel
theorem dX6_base_19 : decode cX6_base 19 = .ok (.ireturn, 1) := by decide +kernel
theorem dX6_baseByWalking_0 : decode cX6_baseByWalking 0 = .ok (.aload_n 0, 1) := by decide +kernel
theorem dX6_baseByWalking_1 : decode cX6_baseByWalking 1 = .ok (.iload_n 1, 1) := by decide +kernel
theorem dX6_baseByWalking_2 : decode cX6_baseByWalking 2 = .ok (.invokevirtual 123, 3) := by decide +kernel
theorem dX6_baseByWalking_5 : decode cX6_baseByWalking 5 = .ok (.aload_n 0, 1) := by decide +kernel
theorem dX6_baseByWalking_6 : decode cX6_baseByWalking 6 = .ok (.iload_n 2, 1) := by decide +kernel
theorem dX6_baseByWalking_7 : decode cX6_baseByWalking 7 = .ok (.invokevirtual 123, 3) := by decide +kernel
theorem dX6_baseByWalking_10 : decode cX6_baseByWalking 10 = .ok (.aload_n 0, 1) := by decide +kernel
theorem dX6_baseByWalking_11 : decode cX6_baseByWalking 11 = .ok (.getfield 10, 3) := by decide +kernel
theorem dX6_baseByWalking_14 : decode cX6_baseByWalking 14 = .ok (.iload_n 1, 1) := by decide +kernel
theorem dX6_baseByWalking_15 : decode cX6_baseByWalking 15 = .ok (.iload_n 2, 1) := by decide +kernel
theorem dX6_baseByWalking_16 : decode cX6_baseByWalking 16 = .ok (.invokevirtual 177, 3) := by decide +kernel
theorem dX6_baseByWalking_19 : decode cX6_baseByWalking 19 = .ok (.ireturn, 1) := by decide +kernel
theorem dX6_bases_0 : decode cX6_bases 0 = .ok (.aload_n 0, 1) := by decide +kernel
theorem dX6_bases_1 : decode cX6_bases 1 = .ok (.iload_n 1, 1) := by decide +kernel
theorem dX6_bases_2 : decode cX6_bases 2 = .ok (.invokevirtual 123, 3) := by decide +kernel
theorem dX6_bases_5 : decode cX6_bases 5 = .ok (.aload_n 0, 1) := by decide +kernel
theorem dX6_bases_6 : decode cX6_bases 6 = .ok (.iload_n 2, 1) := by decide +kernel
theorem dX6_bases_7 : decode cX6_bases 7 = .ok (.invokevirtual 123, 3) := by decide +kernel
theorem dX6_bases_10 : decode cX6_bases 10 = .ok (.aload_n 0, 1) := by decide +kernel
theorem dX6_bases_11 : decode cX6_bases 11 = .ok (.getfield 10, 3) := by decide +kernel
theorem dX6_bases_14 : decode cX6_bases 14 = .ok (.iload_n 1, 1) := by decide +kernel
theorem dX6_bases_15 : decode cX6_bases 15 = .ok (.iload_n 2, 1) := by decide +kernel
theorem dX6_bases_16 : decode cX6_bases 16 = .ok (.invokevirtual 180, 3) := by decide +kernel
theorem dX6_bases_19 : decode cX6_bases 19 = .ok (.ireturn, 1) := by decide +kernel
theorem dX6_movedTo_0 : decode cX6_movedTo 0 = .ok (.aload_n 0, 1) := by decide +kernel
theorem dX6_movedTo_1 : decode cX6_movedTo 1 = .ok (.iload_n 1, 1) := by decide +kernel
theorem dX6_movedTo_2 : decode cX6_movedTo 2 = .ok (.invokevirtual 123, 3) := by decide +kernel
theorem dX6_movedTo_5 : decode cX6_movedTo 5 = .ok (.aload_n 0, 1) := by decide +kernel
theorem dX6_movedTo_6 : decode cX6_movedTo 6 = .ok (.iload_n 2, 1) := by decide +kernel
theorem dX6_movedTo_7 : decode cX6_movedTo 7 = .ok (.invokevirtual 123, 3) := by decide +kernel
theorem dX6_movedTo_10 : decode cX6_movedTo 10 = .ok (.iload_n 3, 1) := by decide +kernel
theorem dX6_movedTo_11 : decode cX6_movedTo 11 = .ok (.invokestatic 48, 3) := by decide +kernel
theorem dX6_movedTo_14 : decode cX6_movedTo 14 = .ok (.aload_n 0, 1) := by decide +kernel
theorem dX6_movedTo_15 : decode cX6_movedTo 15 = .ok (.getfield 19, 3) := by decide +kernel
theorem dX6_movedTo_18 : decode cX6_movedTo 18 = .ok (.aload_n 0, 1) := by decide +kernel
theorem dX6_movedTo_19 : decode cX6_movedTo 19 = .ok (.getfield 10, 3) := by decide +kernel
theorem dX6_movedTo_22 : decode cX6_movedTo 22 = .ok (.iload_n 1, 1) := by decide +kernel
theorem dX6_movedTo_23 : decode cX6_movedTo 23 = .ok (.invokevirtual 79, 3) := by decide +kernel
theorem dX6_movedTo_26 : decode cX6_movedTo 26 = .ok (.aload_n 0, 1) := by decide +kernel
theorem dX6_movedTo_27 : decode cX6_movedTo 27 = .ok (.getfield 10, 3) := by decide +kernel
theorem dX6_movedTo_30 : decode cX6_movedTo 30 = .ok (.iload_n 2, 1) := by decide +kernel
theorem dX6_movedTo_31 : decode cX6_movedTo 31 = .ok (.invokevirtual 79, 3) := by decide +kernel
theorem dX6_movedTo_34 : decode cX6_movedTo 34 = .ok (.iload_n 3, 1) := by decide +kernel
theorem dX6_movedTo_35 : decode cX6_movedTo 35 = .ok (.invokevirtual 183, 3) := by decide +kernel
theorem dX6_movedTo_38 : decode cX6_movedTo 38 = .ok (.istore 4, 2) := by decide +kernel
theorem dX6_movedTo_40 : decode cX6_movedTo 40 = .ok (.iload 4, 2) := by decide +kernel
theorem dX6_movedTo_42 : decode cX6_movedTo 42 = .ok (.iconst (-1), 1) := by decide +kernel
theorem dX6_movedTo_43 : decode cX6_movedTo 43 = .ok (.if_icmp .ne 13, 3) := by decide +kernel
theorem dX6_movedTo_46 : decode cX6_movedTo 46 = .ok (.new 163, 3) := by decide +kernel
theorem dX6_movedTo_49 : decode cX6_movedTo 49 = .ok (.dup, 1) := by decide +kernel
theorem dX6_movedTo_50 : decode cX6_movedTo 50 = .ok (.ldc 187, 2) := by decide +kernel
theorem dX6_movedTo_52 : decode cX6_movedTo 52 = .ok (.invokespecial 167, 3) := by decide +kernel
theorem dX6_movedTo_55 : decode cX6_movedTo 55 = .ok (.athrow, 1) := by decide +kernel
theorem dX6_movedTo_56 : decode cX6_movedTo 56 = .ok (.iload 4, 2) := by decide +kernel
theorem dX6_movedTo_58 : decode cX6_movedTo 58 = .ok (.ireturn, 1) := by decide +kernel
theorem dX6_conflicts_0 : decode cX6_conflicts 0 = .ok (.aload_n 0, 1) := by decide +kernel
theorem dX6_conflicts_1 : decode cX6_conflicts 1 = .ok (.iload_n 1, 1) := by decide +kernel
theorem dX6_conflicts_2 : decode cX6_conflicts 2 = .ok (.invokevirtual 123, 3) := by decide +kernel
theorem dX6_conflicts_5 : decode cX6_conflicts 5 = .ok (.aload_n 0, 1) := by decide +kernel
theorem dX6_conflicts_6 : decode cX6_conflicts 6 = .ok (.iload_n 2, 1) := by decide +kernel
theorem dX6_conflicts_7 : decode cX6_conflicts 7 = .ok (.invokevirtual 123, 3) := by decide +kernel
theorem dX6_conflicts_10 : decode cX6_conflicts 10 = .ok (.aload_n 0, 1) := by decide +kernel
theorem dX6_conflicts_11 : decode cX6_conflicts 11 = .ok (.getfield 19, 3) := by decide +kernel
theorem dX6_conflicts_14 : decode cX6_conflicts 14 = .ok (.aload_n 0, 1) := by decide +kernel
theorem dX6_conflicts_15 : decode cX6_conflicts 15 = .ok (.getfield 10, 3) := by decide +kernel
theorem dX6_conflicts_18 : decode cX6_conflicts 18 = .ok (.aload_n 0, 1) := by decide +kernel
theorem dX6_conflicts_19 : decode cX6_conflicts 19 = .ok (.getfield 10, 3) := by decide +kernel
theorem dX6_conflicts_22 : decode cX6_conflicts 22 = .ok (.iload_n 1, 1) := by decide +kernel
theorem dX6_conflicts_23 : decode cX6_conflicts 23 = .ok (.iload_n 2, 1) := by decide +kernel
theorem dX6_conflicts_24 : decode cX6_conflicts 24 = .ok (.invokevirtual 174, 3) := by decide +kernel
theorem dX6_conflicts_27 : decode cX6_conflicts 27 = .ok (.iload_n 1, 1) := by decide +kernel
theorem dX6_conflicts_28 : decode cX6_conflicts 28 = .ok (.iload_n 2, 1) := by decide +kernel
theorem dX6_conflicts_29 : decode cX6_conflicts 29 = .ok (.invokevirtual 189, 3) := by decide +kernel
theorem dX6_conflicts_32 : decode cX6_conflicts 32 = .ok (.ireturn, 1) := by decide +kernel
theorem dX6_lastChange_0 : decode cX6_lastChange 0 = .ok (.iload_n 1, 1) := by decide +kernel
theorem dX6_lastChange_1 : decode cX6_lastChange 1 = .ok (.invokestatic 48, 3) := by decide +kernel
theorem dX6_lastChange_4 : decode cX6_lastChange 4 = .ok (.aload_n 0, 1) := by decide +kernel
theorem dX6_lastChange_5 : decode cX6_lastChange 5 = .ok (.getfield 10, 3) := by decide +kernel
theorem dX6_lastChange_8 : decode cX6_lastChange 8 = .ok (.iload_n 1, 1) := by decide +kernel
theorem dX6_lastChange_9 : decode cX6_lastChange 9 = .ok (.aload_n 0, 1) := by decide +kernel
theorem dX6_lastChange_10 : decode cX6_lastChange 10 = .ok (.aload_n 0, 1) := by decide +kernel
theorem dX6_lastChange_11 : decode cX6_lastChange 11 = .ok (.getfield 44, 3) := by decide +kernel
theorem dX6_lastChange_14 : decode cX6_lastChange 14 = .ok (.invokevirtual 76, 3) := by decide +kernel
theorem dX6_lastChange_17 : decode cX6_lastChange 17 = .ok (.invokevirtual 193, 3) := by decide +kernel
theorem dX6_lastChange_20 : decode cX6_lastChange 20 = .ok (.istore_n 2, 1) := by decide +kernel
theorem dX6_lastChange_21 : decode cX6_lastChange 21 = .ok (.iload_n 2, 1) := by decide +kernel
theorem dX6_lastChange_22 : decode cX6_lastChange 22 = .ok (.iconst (-1), 1) := by decide +kernel
theorem dX6_lastChange_23 : decode cX6_lastChange 23 = .ok (.if_icmp .ne 13, 3) := by decide +kernel
theorem dX6_lastChange_26 : decode cX6_lastChange 26 = .ok (.new 163, 3) := by decide +kernel
theorem dX6_lastChange_29 : decode cX6_lastChange 29 = .ok (.dup, 1) := by decide +kernel
theorem dX6_lastChange_30 : decode cX6_lastChange 30 = .ok (.ldc 196, 2) := by decide +kernel
theorem dX6_lastChange_32 : decode cX6_lastChange 32 = .ok (.invokespecial 167, 3) := by decide +kernel
theorem dX6_lastChange_35 : decode cX6_lastChange 35 = .ok (.athrow, 1) := by decide +kernel
theorem dX6_lastChange_36 : decode cX6_lastChange 36 = .ok (.iload_n 2, 1) := by decide +kernel
theorem dX6_lastChange_37 : decode cX6_lastChange 37 = .ok (.ireturn, 1) := by decide +kernel
theorem dX6_packed_0 : decode cX6_packed 0 = .ok (.aload_n 0, 1) := by decide +kernel
theorem dX6_packed_1 : decode cX6_packed 1 = .ok (.getfield 26, 3) := by decide +kernel
theorem dX6_packed_4 : decode cX6_packed 4 = .ok (.invokevirtual 198, 3) := by decide +kernel
theorem dX6_packed_7 : decode cX6_packed 7 = .ok (.ireturn, 1) := by decide +kernel
theorem dX6_depthOf_0 : decode cX6_depthOf 0 = .ok (.aload_n 0, 1) := by decide +kernel
theorem dX6_depthOf_1 : decode cX6_depthOf 1 = .ok (.getfield 26, 3) := by decide +kernel
theorem dX6_depthOf_4 : decode cX6_depthOf 4 = .ok (.aload_n 0, 1) := by decide +kernel
theorem dX6_depthOf_5 : decode cX6_depthOf 5 = .ok (.getfield 26, 3) := by decide +kernel
theorem dX6_depthOf_8 : decode cX6_depthOf 8 = .ok (.iload_n 1, 1) := by decide +kernel
theorem dX6_depthOf_9 : decode cX6_depthOf 9 = .ok (.invokevirtual 199, 3) := by decide +kernel
theorem dX6_depthOf_12 : decode cX6_depthOf 12 = .ok (.invokevirtual 202, 3) := by decide +kernel
theorem dX6_depthOf_15 : decode cX6_depthOf 15 = .ok (.istore_n 2, 1) := by decide +kernel
theorem dX6_depthOf_16 : decode cX6_depthOf 16 = .ok (.iload_n 2, 1) := by decide +kernel
theorem dX6_depthOf_17 : decode cX6_depthOf 17 = .ok (.iconst (-1), 1) := by decide +kernel
theorem dX6_depthOf_18 : decode cX6_depthOf 18 = .ok (.if_icmp .ne 13, 3) := by decide +kernel
theorem dX6_depthOf_21 : decode cX6_depthOf 21 = .ok (.new 163, 3) := by decide +kernel
theorem dX6_depthOf_24 : decode cX6_depthOf 24 = .ok (.dup, 1) := by decide +kernel
theorem dX6_depthOf_25 : decode cX6_depthOf 25 = .ok (.ldc 205, 2) := by decide +kernel
theorem dX6_depthOf_27 : decode cX6_depthOf 27 = .ok (.invokespecial 167, 3) := by decide +kernel
theorem dX6_depthOf_30 : decode cX6_depthOf 30 = .ok (.athrow, 1) := by decide +kernel
theorem dX6_depthOf_31 : decode cX6_depthOf 31 = .ok (.iload_n 2, 1) := by decide +kernel
theorem dX6_depthOf_32 : decode cX6_depthOf 32 = .ok (.ireturn, 1) := by decide +kernel
theorem dX6_packedFrom_0 : decode cX6_packedFrom 0 = .ok (.aload_n 0, 1) := by decide +kernel
theorem dX6_packedFrom_1 : decode cX6_packedFrom 1 = .ok (.getfield 26, 3) := by decide +kernel
theorem dX6_packedFrom_4 : decode cX6_packedFrom 4 = .ok (.aload_n 0, 1) := by decide +kernel
theorem dX6_packedFrom_5 : decode cX6_packedFrom 5 = .ok (.getfield 26, 3) := by decide +kernel
theorem dX6_packedFrom_8 : decode cX6_packedFrom 8 = .ok (.iload_n 1, 1) := by decide +kernel
theorem dX6_packedFrom_9 : decode cX6_packedFrom 9 = .ok (.invokevirtual 199, 3) := by decide +kernel
theorem dX6_packedFrom_12 : decode cX6_packedFrom 12 = .ok (.invokevirtual 207, 3) := by decide +kernel
theorem dX6_packedFrom_15 : decode cX6_packedFrom 15 = .ok (.istore_n 2, 1) := by decide +kernel
theorem dX6_packedFrom_16 : decode cX6_packedFrom 16 = .ok (.iload_n 2, 1) := by decide +kernel
theorem dX6_packedFrom_17 : decode cX6_packedFrom 17 = .ok (.iconst (-1), 1) := by decide +kernel
theorem dX6_packedFrom_18 : decode cX6_packedFrom 18 = .ok (.if_icmp .ne 13, 3) := by decide +kernel
theorem dX6_packedFrom_21 : decode cX6_packedFrom 21 = .ok (.new 163, 3) := by decide +kernel
theorem dX6_packedFrom_24 : decode cX6_packedFrom 24 = .ok (.dup, 1) := by decide +kernel
theorem dX6_packedFrom_25 : decode cX6_packedFrom 25 = .ok (.ldc 210, 2) := by decide +kernel
theorem dX6_packedFrom_27 : decode cX6_packedFrom 27 = .ok (.invokespecial 167, 3) := by decide +kernel
theorem dX6_packedFrom_30 : decode cX6_packedFrom 30 = .ok (.athrow, 1) := by decide +kernel
theorem dX6_packedFrom_31 : decode cX6_packedFrom 31 = .ok (.iload_n 2, 1) := by decide +kernel
theorem dX6_packedFrom_32 : decode cX6_packedFrom 32 = .ok (.ireturn, 1) := by decide +kernel
theorem dX6_packSize_0 : decode cX6_packSize 0 = .ok (.aload_n 0, 1) := by decide +kernel
theorem dX6_packSize_1 : decode cX6_packSize 1 = .ok (.getfield 26, 3) := by decide +kernel
theorem dX6_packSize_4 : decode cX6_packSize 4 = .ok (.invokevirtual 212, 3) := by decide +kernel
theorem dX6_packSize_7 : decode cX6_packSize 7 = .ok (.lreturn, 1) := by decide +kernel
theorem dX6_packShare_0 : decode cX6_packShare 0 = .ok (.aload_n 0, 1) := by decide +kernel
theorem dX6_packShare_1 : decode cX6_packShare 1 = .ok (.getfield 26, 3) := by decide +kernel
theorem dX6_packShare_4 : decode cX6_packShare 4 = .ok (.invokevirtual 198, 3) := by decide +kernel
theorem dX6_packShare_7 : decode cX6_packShare 7 = .ok (.i2l, 1) := by decide +kernel
theorem dX6_packShare_8 : decode cX6_packShare 8 = .ok (.ldc2_w 216, 3) := by decide +kernel
theorem dX6_packShare_11 : decode cX6_packShare 11 = .ok (.lmul, 1) := by decide +kernel
theorem dX6_packShare_12 : decode cX6_packShare 12 = .ok (.lstore_n 1, 1) := by decide +kernel
theorem dX6_packShare_13 : decode cX6_packShare 13 = .ok (.lload_n 1, 1) := by decide +kernel
theorem dX6_packShare_14 : decode cX6_packShare 14 = .ok (.lconst 0, 1) := by decide +kernel
theorem dX6_packShare_15 : decode cX6_packShare 15 = .ok (.lcmp, 1) := by decide +kernel
theorem dX6_packShare_16 : decode cX6_packShare 16 = .ok (.ifCond .ne 13, 3) := by decide +kernel
theorem dX6_packShare_19 : decode cX6_packShare 19 = .ok (.new 218, 3) := by decide +kernel
theorem dX6_packShare_22 : decode cX6_packShare 22 = .ok (.dup, 1) := by decide +kernel
theorem dX6_packShare_23 : decode cX6_packShare 23 = .ok (.ldc 220, 2) := by decide +kernel
theorem dX6_packShare_25 : decode cX6_packShare 25 = .ok (.invokespecial 222, 3) := by decide +kernel
theorem dX6_packShare_28 : decode cX6_packShare 28 = .ok (.athrow, 1) := by decide +kernel
theorem dX6_packShare_29 : decode cX6_packShare 29 = .ok (.aload_n 0, 1) := by decide +kernel
theorem dX6_packShare_30 : decode cX6_packShare 30 = .ok (.getfield 26, 3) := by decide +kernel
theorem dX6_packShare_33 : decode cX6_packShare 33 = .ok (.invokevirtual 212, 3) := by decide +kernel
theorem dX6_packShare_36 : decode cX6_packShare 36 = .ok (.l2f, 1) := by decide +kernel
theorem dX6_packShare_37 : decode cX6_packShare 37 = .ok (.lload_n 1, 1) := by decide +kernel
theorem dX6_packShare_38 : decode cX6_packShare 38 = .ok (.l2f, 1) := by decide +kernel
theorem dX6_packShare_39 : decode cX6_packShare 39 = .ok (.fdiv, 1) := by decide +kernel
theorem dX6_packShare_40 : decode cX6_packShare 40 = .ok (.freturn, 1) := by decide +kernel
theorem dX6_meanFiles_0 : decode cX6_meanFiles 0 = .ok (.aload_n 0, 1) := by decide +kernel
theorem dX6_meanFiles_1 : decode cX6_meanFiles 1 = .ok (.getfield 10, 3) := by decide +kernel
theorem dX6_meanFiles_4 : decode cX6_meanFiles 4 = .ok (.invokevirtual 143, 3) := by decide +kernel
theorem dX6_meanFiles_7 : decode cX6_meanFiles 7 = .ok (.istore_n 1, 1) := by decide +kernel
theorem dX6_meanFiles_8 : decode cX6_meanFiles 8 = .ok (.iload_n 1, 1) := by decide +kernel
theorem dX6_meanFiles_9 : decode cX6_meanFiles 9 = .ok (.ifCond .le 17, 3) := by decide +kernel
theorem dX6_meanFiles_12 : decode cX6_meanFiles 12 = .ok (.aload_n 0, 1) := by decide +kernel
theorem dX6_meanFiles_13 : decode cX6_meanFiles 13 = .ok (.getfield 10, 3) := by decide +kernel
theorem dX6_meanFiles_16 : decode cX6_meanFiles 16 = .ok (.invokevirtual 223, 3) := by decide +kernel
theorem dX6_meanFiles_19 : decode cX6_meanFiles 19 = .ok (.i2d, 1) := by decide +kernel
theorem dX6_meanFiles_20 : decode cX6_meanFiles 20 = .ok (.iload_n 1, 1) := by decide +kernel
theorem dX6_meanFiles_21 : decode cX6_meanFiles 21 = .ok (.i2d, 1) := by decide +kernel
theorem dX6_meanFiles_22 : decode cX6_meanFiles 22 = .ok (.ddiv, 1) := by decide +kernel
theorem dX6_meanFiles_23 : decode cX6_meanFiles 23 = .ok (.goto 4, 3) := by decide +kernel
theorem dX6_meanFiles_26 : decode cX6_meanFiles 26 = .ok (.dconst 0, 1) := by decide +kernel
theorem dX6_meanFiles_27 : decode cX6_meanFiles 27 = .ok (.dreturn, 1) := by decide +kernel
theorem dX6_isBranchNumber_0 : decode cX6_isBranchNumber 0 = .ok (.iload_n 0, 1) := by decide +kernel
theorem dX6_isBranchNumber_1 : decode cX6_isBranchNumber 1 = .ok (.ifCond .lt 12, 3) := by decide +kernel
theorem dX6_isBranchNumber_4 : decode cX6_isBranchNumber 4 = .ok (.iload_n 0, 1) := by decide +kernel
theorem dX6_isBranchNumber_5 : decode cX6_isBranchNumber 5 = .ok (.iconst 5, 1) := by decide +kernel
theorem dX6_isBranchNumber_6 : decode cX6_isBranchNumber 6 = .ok (.if_icmp .ge 7, 3) := by decide +kernel
theorem dX6_isBranchNumber_9 : decode cX6_isBranchNumber 9 = .ok (.iconst 1, 1) := by decide +kernel
theorem dX6_isBranchNumber_10 : decode cX6_isBranchNumber 10 = .ok (.goto 4, 3) := by decide +kernel
theorem dX6_isBranchNumber_13 : decode cX6_isBranchNumber 13 = .ok (.iconst 0, 1) := by decide +kernel
theorem dX6_isBranchNumber_14 : decode cX6_isBranchNumber 14 = .ok (.ireturn, 1) := by decide +kernel
theorem dX6_requirePath_0 : decode cX6_requirePath 0 = .ok (.iload_n 0, 1) := by decide +kernel
theorem dX6_requirePath_1 : decode cX6_requirePath 1 = .ok (.ifCond .lt 9, 3) := by decide +kernel
theorem dX6_requirePath_4 : decode cX6_requirePath 4 = .ok (.iload_n 0, 1) := by decide +kernel
theorem dX6_requirePath_5 : decode cX6_requirePath 5 = .ok (.bipush 8, 2) := by decide +kernel
theorem dX6_requirePath_7 : decode cX6_requirePath 7 = .ok (.if_icmp .lt 13, 3) := by decide +kernel
theorem dX6_requirePath_10 : decode cX6_requirePath 10 = .ok (.new 106, 3) := by decide +kernel
theorem dX6_requirePath_13 : decode cX6_requirePath 13 = .ok (.dup, 1) := by decide +kernel
theorem dX6_requirePath_14 : decode cX6_requirePath 14 = .ok (.ldc 226, 2) := by decide +kernel
theorem dX6_requirePath_16 : decode cX6_requirePath 16 = .ok (.invokespecial 110, 3) := by decide +kernel
theorem dX6_requirePath_19 : decode cX6_requirePath 19 = .ok (.athrow, 1) := by decide +kernel
theorem dX6_requirePath_20 : decode cX6_requirePath 20 = .ok (.return_, 1) := by decide +kernel
theorem dX6_requireFile_0 : decode cX6_requireFile 0 = .ok (.aload_n 0, 1) := by decide +kernel
theorem dX6_requireFile_1 : decode cX6_requireFile 1 = .ok (.iload_n 1, 1) := by decide +kernel
theorem dX6_requireFile_2 : decode cX6_requireFile 2 = .ok (.invokevirtual 59, 3) := by decide +kernel
theorem dX6_requireFile_5 : decode cX6_requireFile 5 = .ok (.istore_n 2, 1) := by decide +kernel
theorem dX6_requireFile_6 : decode cX6_requireFile 6 = .ok (.iload_n 2, 1) := by decide +kernel
theorem dX6_requireFile_7 : decode cX6_requireFile 7 = .ok (.iconst (-1), 1) := by decide +kernel
theorem dX6_requireFile_8 : decode cX6_requireFile 8 = .ok (.if_icmp .ne 13, 3) := by decide +kernel
theorem dX6_requireFile_11 : decode cX6_requireFile 11 = .ok (.new 163, 3) := by decide +kernel
theorem dX6_requireFile_14 : decode cX6_requireFile 14 = .ok (.dup, 1) := by decide +kernel
theorem dX6_requireFile_15 : decode cX6_requireFile 15 = .ok (.ldc 228, 2) := by decide +kernel
theorem dX6_requireFile_17 : decode cX6_requireFile 17 = .ok (.invokespecial 167, 3) := by decide +kernel
theorem dX6_requireFile_20 : decode cX6_requireFile 20 = .ok (.athrow, 1) := by decide +kernel
theorem dX6_requireFile_21 : decode cX6_requireFile 21 = .ok (.iload_n 2, 1) := by decide +kernel
theorem dX6_requireFile_22 : decode cX6_requireFile 22 = .ok (.ireturn, 1) := by decide +kernel
theorem dX6_requireCommit_0 : decode cX6_requireCommit 0 = .ok (.aload_n 0, 1) := by decide +kernel
theorem dX6_requireCommit_1 : decode cX6_requireCommit 1 = .ok (.getfield 10, 3) := by decide +kernel
theorem dX6_requireCommit_4 : decode cX6_requireCommit 4 = .ok (.iload_n 1, 1) := by decide +kernel
theorem dX6_requireCommit_5 : decode cX6_requireCommit 5 = .ok (.invokevirtual 230, 3) := by decide +kernel
theorem dX6_requireCommit_8 : decode cX6_requireCommit 8 = .ok (.ifCond .ne 13, 3) := by decide +kernel
theorem dX6_requireCommit_11 : decode cX6_requireCommit 11 = .ok (.new 106, 3) := by decide +kernel
theorem dX6_requireCommit_14 : decode cX6_requireCommit 14 = .ok (.dup, 1) := by decide +kernel
theorem dX6_requireCommit_15 : decode cX6_requireCommit 15 = .ok (.ldc 233, 2) := by decide +kernel
theorem dX6_requireCommit_17 : decode cX6_requireCommit 17 = .ok (.invokespecial 110, 3) := by decide +kernel
theorem dX6_requireCommit_20 : decode cX6_requireCommit 20 = .ok (.athrow, 1) := by decide +kernel
theorem dX6_requireCommit_21 : decode cX6_requireCommit 21 = .ok (.return_, 1) := by decide +kernel
theorem dX6_requireHead_0 : decode cX6_requireHead 0 = .ok (.iload_n 1, 1) := by decide +kernel
theorem dX6_requireHead_1 : decode cX6_requireHead 1 = .ok (.invokestatic 102, 3) := by decide +kernel
theorem dX6_requireHead_4 : decode cX6_requireHead 4 = .ok (.ifCond .ne 13, 3) := by decide +kernel
theorem dX6_requireHead_7 : decode cX6_requireHead 7 = .ok (.new 106, 3) := by decide +kernel
theorem dX6_requireHead_10 : decode cX6_requireHead 10 = .ok (.dup, 1) := by decide +kernel
theorem dX6_requireHead_11 : decode cX6_requireHead 11 = .ok (.ldc 108, 2) := by decide +kernel
theorem dX6_requireHead_13 : decode cX6_requireHead 13 = .ok (.invokespecial 110, 3) := by decide +kernel
theorem dX6_requireHead_16 : decode cX6_requireHead 16 = .ok (.athrow, 1) := by decide +kernel
theorem dX6_requireHead_17 : decode cX6_requireHead 17 = .ok (.aload_n 0, 1) := by decide +kernel
theorem dX6_requireHead_18 : decode cX6_requireHead 18 = .ok (.iload_n 1, 1) := by decide +kernel
theorem dX6_requireHead_19 : decode cX6_requireHead 19 = .ok (.invokevirtual 76, 3) := by decide +kernel
theorem dX6_requireHead_22 : decode cX6_requireHead 22 = .ok (.istore_n 2, 1) := by decide +kernel
theorem dX6_requireHead_23 : decode cX6_requireHead 23 = .ok (.iload_n 2, 1) := by decide +kernel
theorem dX6_requireHead_24 : decode cX6_requireHead 24 = .ok (.iconst (-1), 1) := by decide +kernel
theorem dX6_requireHead_25 : decode cX6_requireHead 25 = .ok (.if_icmp .ne 13, 3) := by decide +kernel
theorem dX6_requireHead_28 : decode cX6_requireHead 28 = .ok (.new 163, 3) := by decide +kernel
theorem dX6_requireHead_31 : decode cX6_requireHead 31 = .ok (.dup, 1) := by decide +kernel
theorem dX6_requireHead_32 : decode cX6_requireHead 32 = .ok (.ldc 235, 2) := by decide +kernel
theorem dX6_requireHead_34 : decode cX6_requireHead 34 = .ok (.invokespecial 167, 3) := by decide +kernel
theorem dX6_requireHead_37 : decode cX6_requireHead 37 = .ok (.athrow, 1) := by decide +kernel
theorem dX6_requireHead_38 : decode cX6_requireHead 38 = .ok (.iload_n 2, 1) := by decide +kernel
theorem dX6_requireHead_39 : decode cX6_requireHead 39 = .ok (.ireturn, 1) := by decide +kernel
theorem dX6_requireNoChanges_0 : decode cX6_requireNoChanges 0 = .ok (.aload_n 0, 1) := by decide +kernel
theorem dX6_requireNoChanges_1 : decode cX6_requireNoChanges 1 = .ok (.invokevirtual 87, 3) := by decide +kernel
theorem dX6_requireNoChanges_4 : decode cX6_requireNoChanges 4 = .ok (.ifCond .eq 13, 3) := by decide +kernel
theorem dX6_requireNoChanges_7 : decode cX6_requireNoChanges 7 = .ok (.new 71, 3) := by decide +kernel
theorem dX6_requireNoChanges_10 : decode cX6_requireNoChanges 10 = .ok (.dup, 1) := by decide +kernel
theorem dX6_requireNoChanges_11 : decode cX6_requireNoChanges 11 = .ok (.ldc 237, 2) := by decide +kernel
theorem dX6_requireNoChanges_13 : decode cX6_requireNoChanges 13 = .ok (.invokespecial 75, 3) := by decide +kernel
theorem dX6_requireNoChanges_16 : decode cX6_requireNoChanges 16 = .ok (.athrow, 1) := by decide +kernel
theorem dX6_requireNoChanges_17 : decode cX6_requireNoChanges 17 = .ok (.return_, 1) := by decide +kernel
theorem dX6_headOf_0 : decode cX6_headOf 0 = .ok (.iload_n 1, 1) := by decide +kernel
theorem dX6_headOf_1 : decode cX6_headOf 1 = .ok (.invokestatic 102, 3) := by decide +kernel
theorem dX6_headOf_4 : decode cX6_headOf 4 = .ok (.ifCond .eq 12, 3) := by decide +kernel
theorem dX6_headOf_7 : decode cX6_headOf 7 = .ok (.aload_n 0, 1) := by decide +kernel
theorem dX6_headOf_8 : decode cX6_headOf 8 = .ok (.getfield 37, 3) := by decide +kernel
theorem dX6_headOf_11 : decode cX6_headOf 11 = .ok (.iload_n 1, 1) := by decide +kernel
theorem dX6_headOf_12 : decode cX6_headOf 12 = .ok (.iaload, 1) := by decide +kernel
theorem dX6_headOf_13 : decode cX6_headOf 13 = .ok (.goto 4, 3) := by decide +kernel
theorem dX6_headOf_16 : decode cX6_headOf 16 = .ok (.iconst (-1), 1) := by decide +kernel
theorem dX6_headOf_17 : decode cX6_headOf 17 = .ok (.ireturn, 1) := by decide +kernel
theorem dX6_takeAsHead_0 : decode cX6_takeAsHead 0 = .ok (.aload_n 0, 1) := by decide +kernel
theorem dX6_takeAsHead_1 : decode cX6_takeAsHead 1 = .ok (.getfield 44, 3) := by decide +kernel
theorem dX6_takeAsHead_4 : decode cX6_takeAsHead 4 = .ok (.invokestatic 102, 3) := by decide +kernel
theorem dX6_takeAsHead_7 : decode cX6_takeAsHead 7 = .ok (.ifCond .eq 13, 3) := by decide +kernel
theorem dX6_takeAsHead_10 : decode cX6_takeAsHead 10 = .ok (.aload_n 0, 1) := by decide +kernel
theorem dX6_takeAsHead_11 : decode cX6_takeAsHead 11 = .ok (.getfield 37, 3) := by decide +kernel
theorem dX6_takeAsHead_14 : decode cX6_takeAsHead 14 = .ok (.aload_n 0, 1) := by decide +kernel
theorem dX6_takeAsHead_15 : decode cX6_takeAsHead 15 = .ok (.getfield 44, 3) := by decide +kernel
theorem dX6_takeAsHead_18 : decode cX6_takeAsHead 18 = .ok (.iload_n 1, 1) := by decide +kernel
theorem dX6_takeAsHead_19 : decode cX6_takeAsHead 19 = .ok (.iastore, 1) := by decide +kernel
theorem dX6_takeAsHead_20 : decode cX6_takeAsHead 20 = .ok (.aload_n 0, 1) := by decide +kernel
theorem dX6_takeAsHead_21 : decode cX6_takeAsHead 21 = .ok (.getfield 33, 3) := by decide +kernel
theorem dX6_takeAsHead_24 : decode cX6_takeAsHead 24 = .ok (.aload_n 0, 1) := by decide +kernel
theorem dX6_takeAsHead_25 : decode cX6_takeAsHead 25 = .ok (.getfield 10, 3) := by decide +kernel
theorem dX6_takeAsHead_28 : decode cX6_takeAsHead 28 = .ok (.iload_n 1, 1) := by decide +kernel
theorem dX6_takeAsHead_29 : decode cX6_takeAsHead 29 = .ok (.invokevirtual 79, 3) := by decide +kernel
theorem dX6_takeAsHead_32 : decode cX6_takeAsHead 32 = .ok (.invokevirtual 119, 3) := by decide +kernel
theorem dX6_takeAsHead_35 : decode cX6_takeAsHead 35 = .ok (.aload_n 0, 1) := by decide +kernel
theorem dX6_takeAsHead_36 : decode cX6_takeAsHead 36 = .ok (.getfield 26, 3) := by decide +kernel
theorem dX6_takeAsHead_39 : decode cX6_takeAsHead 39 = .ok (.aload_n 0, 1) := by decide +kernel
theorem dX6_takeAsHead_40 : decode cX6_takeAsHead 40 = .ok (.getfield 10, 3) := by decide +kernel
theorem dX6_takeAsHead_43 : decode cX6_takeAsHead 43 = .ok (.invokevirtual 239, 3) := by decide +kernel
theorem dX6_takeAsHead_46 : decode cX6_takeAsHead 46 = .ok (.return_, 1) := by decide +kernel
theorem dX6_recordMerge_0 : decode cX6_recordMerge 0 = .ok (.aload_n 0, 1) := by decide +kernel
theorem dX6_recordMerge_1 : decode cX6_recordMerge 1 = .ok (.getfield 19, 3) := by decide +kernel
theorem dX6_recordMerge_4 : decode cX6_recordMerge 4 = .ok (.aload_n 0, 1) := by decide +kernel
theorem dX6_recordMerge_5 : decode cX6_recordMerge 5 = .ok (.getfield 10, 3) := by decide +kernel
theorem dX6_recordMerge_8 : decode cX6_recordMerge 8 = .ok (.aload_n 0, 1) := by decide +kernel
theorem dX6_recordMerge_9 : decode cX6_recordMerge 9 = .ok (.getfield 10, 3) := by decide +kernel
theorem dX6_recordMerge_12 : decode cX6_recordMerge 12 = .ok (.iload_n 1, 1) := by decide +kernel
theorem dX6_recordMerge_13 : decode cX6_recordMerge 13 = .ok (.iload_n 2, 1) := by decide +kernel
theorem dX6_recordMerge_14 : decode cX6_recordMerge 14 = .ok (.invokevirtual 174, 3) := by decide +kernel
theorem dX6_recordMerge_17 : decode cX6_recordMerge 17 = .ok (.iload_n 1, 1) := by decide +kernel
theorem dX6_recordMerge_18 : decode cX6_recordMerge 18 = .ok (.iload_n 2, 1) := by decide +kernel
theorem dX6_recordMerge_19 : decode cX6_recordMerge 19 = .ok (.invokevirtual 189, 3) := by decide +kernel
theorem dX6_recordMerge_22 : decode cX6_recordMerge 22 = .ok (.ifCond .le 5, 3) := by decide +kernel
theorem dX6_recordMerge_25 : decode cX6_recordMerge 25 = .ok (.iconst (-1), 1) := by decide +kernel
theorem dX6_recordMerge_26 : decode cX6_recordMerge 26 = .ok (.ireturn, 1) := by decide +kernel
theorem dX6_recordMerge_27 : decode cX6_recordMerge 27 = .ok (.aload_n 0, 1) := by decide +kernel
theorem dX6_recordMerge_28 : decode cX6_recordMerge 28 = .ok (.getfield 10, 3) := by decide +kernel
theorem dX6_recordMerge_31 : decode cX6_recordMerge 31 = .ok (.aload_n 0, 1) := by decide +kernel
theorem dX6_recordMerge_32 : decode cX6_recordMerge 32 = .ok (.getfield 19, 3) := by decide +kernel
theorem dX6_recordMerge_35 : decode cX6_recordMerge 35 = .ok (.invokevirtual 243, 3) := by decide +kernel
theorem dX6_recordMerge_38 : decode cX6_recordMerge 38 = .ok (.iload_n 1, 1) := by decide +kernel
theorem dX6_recordMerge_39 : decode cX6_recordMerge 39 = .ok (.iload_n 2, 1) := by decide +kernel
theorem dX6_recordMerge_40 : decode cX6_recordMerge 40 = .ok (.invokevirtual 93, 3) := by decide +kernel
theorem dX6_recordMerge_43 : decode cX6_recordMerge 43 = .ok (.ireturn, 1) := by decide +kernel
theorem dX6_listCommitsNotIn_0 : decode cX6_listCommitsNotIn 0 = .ok (.iconst 0, 1) := by decide +kernel
theorem dX6_listCommitsNotIn_1 : decode cX6_listCommitsNotIn 1 = .ok (.istore_n 3, 1) := by decide +kernel
theorem dX6_listCommitsNotIn_2 : decode cX6_listCommitsNotIn 2 = .ok (.iload_n 2, 1) := by decide +kernel
theorem dX6_listCommitsNotIn_3 : decode cX6_listCommitsNotIn 3 = .ok (.istore 4, 2) := by decide +kernel
theorem dX6_listCommitsNotIn_5 : decode cX6_listCommitsNotIn 5 = .ok (.iload_n 3, 1) := by decide +kernel
theorem dX6_listCommitsNotIn_6 : decode cX6_listCommitsNotIn 6 = .ok (.aload_n 0, 1) := by decide +kernel
theorem dX6_listCommitsNotIn_7 : decode cX6_listCommitsNotIn 7 = .ok (.getfield 41, 3) := by decide +kernel
theorem dX6_listCommitsNotIn_10 : decode cX6_listCommitsNotIn 10 = .ok (.arraylength, 1) := by decide +kernel
theorem dX6_listCommitsNotIn_11 : decode cX6_listCommitsNotIn 11 = .ok (.if_icmp .ge 47, 3) := by decide +kernel
theorem dX6_listCommitsNotIn_14 : decode cX6_listCommitsNotIn 14 = .ok (.iload 4, 2) := by decide +kernel
theorem dX6_listCommitsNotIn_16 : decode cX6_listCommitsNotIn 16 = .ok (.iconst (-1), 1) := by decide +kernel
theorem dX6_listCommitsNotIn_17 : decode cX6_listCommitsNotIn 17 = .ok (.if_icmp .eq 41, 3) := by decide +kernel
theorem dX6_listCommitsNotIn_20 : decode cX6_listCommitsNotIn 20 = .ok (.aload_n 0, 1) := by decide +kernel
theorem dX6_listCommitsNotIn_21 : decode cX6_listCommitsNotIn 21 = .ok (.getfield 10, 3) := by decide +kernel
theorem dX6_listCommitsNotIn_24 : decode cX6_listCommitsNotIn 24 = .ok (.iload_n 1, 1) := by decide +kernel
theorem dX6_listCommitsNotIn_25 : decode cX6_listCommitsNotIn 25 = .ok (.iload 4, 2) := by decide +kernel
theorem dX6_listCommitsNotIn_27 : decode cX6_listCommitsNotIn 27 = .ok (.invokevirtual 126, 3) := by decide +kernel
theorem dX6_listCommitsNotIn_30 : decode cX6_listCommitsNotIn 30 = .ok (.ifCond .ne 28, 3) := by decide +kernel
theorem dX6_listCommitsNotIn_33 : decode cX6_listCommitsNotIn 33 = .ok (.aload_n 0, 1) := by decide +kernel
theorem dX6_listCommitsNotIn_34 : decode cX6_listCommitsNotIn 34 = .ok (.getfield 41, 3) := by decide +kernel
theorem dX6_listCommitsNotIn_37 : decode cX6_listCommitsNotIn 37 = .ok (.iload_n 3, 1) := by decide +kernel
theorem dX6_listCommitsNotIn_38 : decode cX6_listCommitsNotIn 38 = .ok (.iload 4, 2) := by decide +kernel
theorem dX6_listCommitsNotIn_40 : decode cX6_listCommitsNotIn 40 = .ok (.iastore, 1) := by decide +kernel
theorem dX6_listCommitsNotIn_41 : decode cX6_listCommitsNotIn 41 = .ok (.iinc 3 1, 3) := by decide +kernel
theorem dX6_listCommitsNotIn_44 : decode cX6_listCommitsNotIn 44 = .ok (.aload_n 0, 1) := by decide +kernel
theorem dX6_listCommitsNotIn_45 : decode cX6_listCommitsNotIn 45 = .ok (.getfield 10, 3) := by decide +kernel
theorem dX6_listCommitsNotIn_48 : decode cX6_listCommitsNotIn 48 = .ok (.iload 4, 2) := by decide +kernel
theorem dX6_listCommitsNotIn_50 : decode cX6_listCommitsNotIn 50 = .ok (.invokevirtual 157, 3) := by decide +kernel
theorem dX6_listCommitsNotIn_53 : decode cX6_listCommitsNotIn 53 = .ok (.istore 4, 2) := by decide +kernel
theorem dX6_listCommitsNotIn_55 : decode cX6_listCommitsNotIn 55 = .ok (.goto (-50), 3) := by decide +kernel
theorem dX6_listCommitsNotIn_58 : decode cX6_listCommitsNotIn 58 = .ok (.iload_n 3, 1) := by decide +kernel
theorem dX6_listCommitsNotIn_59 : decode cX6_listCommitsNotIn 59 = .ok (.ireturn, 1) := by decide +kernel
theorem dX6_applyListed_0 : decode cX6_applyListed 0 = .ok (.iload_n 2, 1) := by decide +kernel
theorem dX6_applyListed_1 : decode cX6_applyListed 1 = .ok (.istore_n 3, 1) := by decide +kernel
theorem dX6_applyListed_2 : decode cX6_applyListed 2 = .ok (.iload_n 1, 1) := by decide +kernel
theorem dX6_applyListed_3 : decode cX6_applyListed 3 = .ok (.aload_n 0, 1) := by decide +kernel
theorem dX6_applyListed_4 : decode cX6_applyListed 4 = .ok (.getfield 41, 3) := by decide +kernel
theorem dX6_applyListed_7 : decode cX6_applyListed 7 = .ok (.arraylength, 1) := by decide +kernel
theorem dX6_applyListed_8 : decode cX6_applyListed 8 = .ok (.invokestatic 247, 3) := by decide +kernel
theorem dX6_applyListed_11 : decode cX6_applyListed 11 = .ok (.iconst 1, 1) := by decide +kernel
theorem dX6_applyListed_12 : decode cX6_applyListed 12 = .ok (.isub, 1) := by decide +kernel
theorem dX6_applyListed_13 : decode cX6_applyListed 13 = .ok (.istore 4, 2) := by decide +kernel
theorem dX6_applyListed_15 : decode cX6_applyListed 15 = .ok (.iload 4, 2) := by decide +kernel
theorem dX6_applyListed_17 : decode cX6_applyListed 17 = .ok (.ifCond .lt 89, 3) := by decide +kernel
theorem dX6_applyListed_20 : decode cX6_applyListed 20 = .ok (.iload_n 3, 1) := by decide +kernel
theorem dX6_applyListed_21 : decode cX6_applyListed 21 = .ok (.iconst (-1), 1) := by decide +kernel
theorem dX6_applyListed_22 : decode cX6_applyListed 22 = .ok (.if_icmp .eq 84, 3) := by decide +kernel
theorem dX6_applyListed_25 : decode cX6_applyListed 25 = .ok (.aload_n 0, 1) := by decide +kernel
theorem dX6_applyListed_26 : decode cX6_applyListed 26 = .ok (.getfield 41, 3) := by decide +kernel
theorem dX6_applyListed_29 : decode cX6_applyListed 29 = .ok (.iload 4, 2) := by decide +kernel
theorem dX6_applyListed_31 : decode cX6_applyListed 31 = .ok (.iaload, 1) := by decide +kernel
theorem dX6_applyListed_32 : decode cX6_applyListed 32 = .ok (.istore 5, 2) := by decide +kernel
theorem dX6_applyListed_34 : decode cX6_applyListed 34 = .ok (.aload_n 0, 1) := by decide +kernel
theorem dX6_applyListed_35 : decode cX6_applyListed 35 = .ok (.getfield 19, 3) := by decide +kernel
theorem dX6_applyListed_38 : decode cX6_applyListed 38 = .ok (.aload_n 0, 1) := by decide +kernel
theorem dX6_applyListed_39 : decode cX6_applyListed 39 = .ok (.getfield 10, 3) := by decide +kernel
theorem dX6_applyListed_42 : decode cX6_applyListed 42 = .ok (.aload_n 0, 1) := by decide +kernel
theorem dX6_applyListed_43 : decode cX6_applyListed 43 = .ok (.getfield 10, 3) := by decide +kernel
theorem dX6_applyListed_46 : decode cX6_applyListed 46 = .ok (.iload 5, 2) := by decide +kernel
theorem dX6_applyListed_48 : decode cX6_applyListed 48 = .ok (.invokevirtual 157, 3) := by decide +kernel
theorem dX6_applyListed_51 : decode cX6_applyListed 51 = .ok (.iload_n 3, 1) := by decide +kernel
theorem dX6_applyListed_52 : decode cX6_applyListed 52 = .ok (.iload 5, 2) := by decide +kernel
theorem dX6_applyListed_54 : decode cX6_applyListed 54 = .ok (.invokevirtual 189, 3) := by decide +kernel
theorem dX6_applyListed_57 : decode cX6_applyListed 57 = .ok (.ifCond .le 5, 3) := by decide +kernel
theorem dX6_applyListed_60 : decode cX6_applyListed 60 = .ok (.iconst (-1), 1) := by decide +kernel
theorem dX6_applyListed_61 : decode cX6_applyListed 61 = .ok (.ireturn, 1) := by decide +kernel
theorem dX6_applyListed_62 : decode cX6_applyListed 62 = .ok (.aload_n 0, 1) := by decide +kernel
theorem dX6_applyListed_63 : decode cX6_applyListed 63 = .ok (.getfield 19, 3) := by decide +kernel
theorem dX6_applyListed_66 : decode cX6_applyListed 66 = .ok (.invokevirtual 243, 3) := by decide +kernel
theorem dX6_applyListed_69 : decode cX6_applyListed 69 = .ok (.aload_n 0, 1) := by decide +kernel
theorem dX6_applyListed_70 : decode cX6_applyListed 70 = .ok (.getfield 10, 3) := by decide +kernel
theorem dX6_applyListed_73 : decode cX6_applyListed 73 = .ok (.iload_n 3, 1) := by decide +kernel
theorem dX6_applyListed_74 : decode cX6_applyListed 74 = .ok (.invokevirtual 79, 3) := by decide +kernel
theorem dX6_applyListed_77 : decode cX6_applyListed 77 = .ok (.invokevirtual 83, 3) := by decide +kernel
theorem dX6_applyListed_80 : decode cX6_applyListed 80 = .ok (.ifCond .le 20, 3) := by decide +kernel
theorem dX6_applyListed_83 : decode cX6_applyListed 83 = .ok (.aload_n 0, 1) := by decide +kernel
theorem dX6_applyListed_84 : decode cX6_applyListed 84 = .ok (.getfield 10, 3) := by decide +kernel
theorem dX6_applyListed_87 : decode cX6_applyListed 87 = .ok (.aload_n 0, 1) := by decide +kernel
theorem dX6_applyListed_88 : decode cX6_applyListed 88 = .ok (.getfield 19, 3) := by decide +kernel
theorem dX6_applyListed_91 : decode cX6_applyListed 91 = .ok (.invokevirtual 243, 3) := by decide +kernel
theorem dX6_applyListed_94 : decode cX6_applyListed 94 = .ok (.iload_n 3, 1) := by decide +kernel
theorem dX6_applyListed_95 : decode cX6_applyListed 95 = .ok (.iconst (-1), 1) := by decide +kernel
theorem dX6_applyListed_96 : decode cX6_applyListed 96 = .ok (.invokevirtual 93, 3) := by decide +kernel
theorem dX6_applyListed_99 : decode cX6_applyListed 99 = .ok (.istore_n 3, 1) := by decide +kernel
theorem dX6_applyListed_100 : decode cX6_applyListed 100 = .ok (.iinc 4 (-1), 3) := by decide +kernel
theorem dX6_applyListed_103 : decode cX6_applyListed 103 = .ok (.goto (-88), 3) := by decide +kernel
theorem dX6_applyListed_106 : decode cX6_applyListed 106 = .ok (.iload_n 3, 1) := by decide +kernel
theorem dX6_applyListed_107 : decode cX6_applyListed 107 = .ok (.ireturn, 1) := by decide +kernel
theorem dJx00060_init_a7421_0 : decode cJx00060_init_a7421 0 = .ok (.aload_n 0, 1) := by decide +kernel
theorem dJx00060_init_a7421_1 : decode cJx00060_init_a7421 1 = .ok (.aload_n 1, 1) := by decide +kernel
theorem dJx00060_init_a7421_2 : decode cJx00060_init_a7421 2 = .ok (.invokespecial 7, 3) := by decide +kernel
theorem dJx00060_init_a7421_5 : decode cJx00060_init_a7421 5 = .ok (.return_, 1) := by decide +kernel
theorem dJ13_bitCount_95d88_0 : decode cJ13_bitCount_95d88 0 = .ok (.lload_n 0, 1) := by decide +kernel
theorem dJ13_bitCount_95d88_1 : decode cJ13_bitCount_95d88 1 = .ok (.lload_n 0, 1) := by decide +kernel
theorem dJ13_bitCount_95d88_2 : decode cJ13_bitCount_95d88 2 = .ok (.iconst 1, 1) := by decide +kernel
theorem dJ13_bitCount_95d88_3 : decode cJ13_bitCount_95d88 3 = .ok (.lushr, 1) := by decide +kernel
theorem dJ13_bitCount_95d88_4 : decode cJ13_bitCount_95d88 4 = .ok (.ldc2_w 314, 3) := by decide +kernel
theorem dJ13_bitCount_95d88_7 : decode cJ13_bitCount_95d88 7 = .ok (.land, 1) := by decide +kernel
theorem dJ13_bitCount_95d88_8 : decode cJ13_bitCount_95d88 8 = .ok (.lsub, 1) := by decide +kernel
theorem dJ13_bitCount_95d88_9 : decode cJ13_bitCount_95d88 9 = .ok (.lstore_n 0, 1) := by decide +kernel
theorem dJ13_bitCount_95d88_10 : decode cJ13_bitCount_95d88 10 = .ok (.lload_n 0, 1) := by decide +kernel
theorem dJ13_bitCount_95d88_11 : decode cJ13_bitCount_95d88 11 = .ok (.ldc2_w 316, 3) := by decide +kernel
theorem dJ13_bitCount_95d88_14 : decode cJ13_bitCount_95d88 14 = .ok (.land, 1) := by decide +kernel
theorem dJ13_bitCount_95d88_15 : decode cJ13_bitCount_95d88 15 = .ok (.lload_n 0, 1) := by decide +kernel
theorem dJ13_bitCount_95d88_16 : decode cJ13_bitCount_95d88 16 = .ok (.iconst 2, 1) := by decide +kernel
theorem dJ13_bitCount_95d88_17 : decode cJ13_bitCount_95d88 17 = .ok (.lushr, 1) := by decide +kernel
theorem dJ13_bitCount_95d88_18 : decode cJ13_bitCount_95d88 18 = .ok (.ldc2_w 316, 3) := by decide +kernel
theorem dJ13_bitCount_95d88_21 : decode cJ13_bitCount_95d88 21 = .ok (.land, 1) := by decide +kernel
theorem dJ13_bitCount_95d88_22 : decode cJ13_bitCount_95d88 22 = .ok (.ladd, 1) := by decide +kernel
theorem dJ13_bitCount_95d88_23 : decode cJ13_bitCount_95d88 23 = .ok (.lstore_n 0, 1) := by decide +kernel
theorem dJ13_bitCount_95d88_24 : decode cJ13_bitCount_95d88 24 = .ok (.lload_n 0, 1) := by decide +kernel
theorem dJ13_bitCount_95d88_25 : decode cJ13_bitCount_95d88 25 = .ok (.lload_n 0, 1) := by decide +kernel
theorem dJ13_bitCount_95d88_26 : decode cJ13_bitCount_95d88 26 = .ok (.iconst 4, 1) := by decide +kernel
theorem dJ13_bitCount_95d88_27 : decode cJ13_bitCount_95d88 27 = .ok (.lushr, 1) := by decide +kernel
theorem dJ13_bitCount_95d88_28 : decode cJ13_bitCount_95d88 28 = .ok (.ladd, 1) := by decide +kernel
theorem dJ13_bitCount_95d88_29 : decode cJ13_bitCount_95d88 29 = .ok (.ldc2_w 318, 3) := by decide +kernel
theorem dJ13_bitCount_95d88_32 : decode cJ13_bitCount_95d88 32 = .ok (.land, 1) := by decide +kernel
theorem dJ13_bitCount_95d88_33 : decode cJ13_bitCount_95d88 33 = .ok (.lstore_n 0, 1) := by decide +kernel
theorem dJ13_bitCount_95d88_34 : decode cJ13_bitCount_95d88 34 = .ok (.lload_n 0, 1) := by decide +kernel
theorem dJ13_bitCount_95d88_35 : decode cJ13_bitCount_95d88 35 = .ok (.lload_n 0, 1) := by decide +kernel
theorem dJ13_bitCount_95d88_36 : decode cJ13_bitCount_95d88 36 = .ok (.bipush 8, 2) := by decide +kernel
theorem dJ13_bitCount_95d88_38 : decode cJ13_bitCount_95d88 38 = .ok (.lushr, 1) := by decide +kernel
theorem dJ13_bitCount_95d88_39 : decode cJ13_bitCount_95d88 39 = .ok (.ladd, 1) := by decide +kernel
theorem dJ13_bitCount_95d88_40 : decode cJ13_bitCount_95d88 40 = .ok (.lstore_n 0, 1) := by decide +kernel
theorem dJ13_bitCount_95d88_41 : decode cJ13_bitCount_95d88 41 = .ok (.lload_n 0, 1) := by decide +kernel
theorem dJ13_bitCount_95d88_42 : decode cJ13_bitCount_95d88 42 = .ok (.lload_n 0, 1) := by decide +kernel
theorem dJ13_bitCount_95d88_43 : decode cJ13_bitCount_95d88 43 = .ok (.bipush 16, 2) := by decide +kernel
theorem dJ13_bitCount_95d88_45 : decode cJ13_bitCount_95d88 45 = .ok (.lushr, 1) := by decide +kernel
theorem dJ13_bitCount_95d88_46 : decode cJ13_bitCount_95d88 46 = .ok (.ladd, 1) := by decide +kernel
theorem dJ13_bitCount_95d88_47 : decode cJ13_bitCount_95d88 47 = .ok (.lstore_n 0, 1) := by decide +kernel
theorem dJ13_bitCount_95d88_48 : decode cJ13_bitCount_95d88 48 = .ok (.lload_n 0, 1) := by decide +kernel
theorem dJ13_bitCount_95d88_49 : decode cJ13_bitCount_95d88 49 = .ok (.lload_n 0, 1) := by decide +kernel
theorem dJ13_bitCount_95d88_50 : decode cJ13_bitCount_95d88 50 = .ok (.bipush 32, 2) := by decide +kernel
theorem dJ13_bitCount_95d88_52 : decode cJ13_bitCount_95d88 52 = .ok (.lushr, 1) := by decide +kernel
theorem dJ13_bitCount_95d88_53 : decode cJ13_bitCount_95d88 53 = .ok (.ladd, 1) := by decide +kernel
theorem dJ13_bitCount_95d88_54 : decode cJ13_bitCount_95d88 54 = .ok (.lstore_n 0, 1) := by decide +kernel
theorem dJ13_bitCount_95d88_55 : decode cJ13_bitCount_95d88 55 = .ok (.lload_n 0, 1) := by decide +kernel
theorem dJ13_bitCount_95d88_56 : decode cJ13_bitCount_95d88 56 = .ok (.l2i, 1) := by decide +kernel
theorem dJ13_bitCount_95d88_57 : decode cJ13_bitCount_95d88 57 = .ok (.bipush 127, 2) := by decide +kernel
theorem dJ13_bitCount_95d88_59 : decode cJ13_bitCount_95d88 59 = .ok (.iand, 1) := by decide +kernel
theorem dJ13_bitCount_95d88_60 : decode cJ13_bitCount_95d88 60 = .ok (.ireturn, 1) := by decide +kernel
theorem dJ9_max_7cf53_0 : decode cJ9_max_7cf53 0 = .ok (.iload_n 0, 1) := by decide +kernel
theorem dJ9_max_7cf53_1 : decode cJ9_max_7cf53 1 = .ok (.iload_n 1, 1) := by decide +kernel
theorem dJ9_max_7cf53_2 : decode cJ9_max_7cf53 2 = .ok (.if_icmp .lt 7, 3) := by decide +kernel
theorem dJ9_max_7cf53_5 : decode cJ9_max_7cf53 5 = .ok (.iload_n 0, 1) := by decide +kernel
theorem dJ9_max_7cf53_6 : decode cJ9_max_7cf53 6 = .ok (.goto 4, 3) := by decide +kernel
theorem dJ9_max_7cf53_9 : decode cJ9_max_7cf53 9 = .ok (.iload_n 1, 1) := by decide +kernel
theorem dJ9_max_7cf53_10 : decode cJ9_max_7cf53 10 = .ok (.ireturn, 1) := by decide +kernel
theorem dJ9_min_7cf53_0 : decode cJ9_min_7cf53 0 = .ok (.iload_n 0, 1) := by decide +kernel
theorem dJ9_min_7cf53_1 : decode cJ9_min_7cf53 1 = .ok (.iload_n 1, 1) := by decide +kernel
theorem dJ9_min_7cf53_2 : decode cJ9_min_7cf53 2 = .ok (.if_icmp .gt 7, 3) := by decide +kernel
theorem dJ9_min_7cf53_5 : decode cJ9_min_7cf53 5 = .ok (.iload_n 0, 1) := by decide +kernel
theorem dJ9_min_7cf53_6 : decode cJ9_min_7cf53 6 = .ok (.goto 4, 3) := by decide +kernel
theorem dJ9_min_7cf53_9 : decode cJ9_min_7cf53 9 = .ok (.iload_n 1, 1) := by decide +kernel
theorem dJ9_min_7cf53_10 : decode cJ9_min_7cf53 10 = .ok (.ireturn, 1) := by decide +kernel
end
section
/-! the good words of the tables -/
def gw : List Cond := lw_tbl.filter goodWord
theorem gw_mem {w : Cond} (h : w ∈ lw_tbl) (g : goodWord w = true) : w ∈ gw := List.mem_filter.mpr ⟨h, g⟩
theorem gw_t {w : Cond} (i : Nat) (h : tables_1[i]? = some w) (g : goodWord w = true) : w ∈ gw := gw_mem (List.mem_append_right _ (List.mem_of_getElem? h)) g
theorem gw_p {w : Cond} (i : Nat) (h : (k2_sels lw_privs)[i]? = some w) (g : goodWord w = true) : w ∈ gw := gw_mem (List.mem_append_left _ (List.mem_of_getElem? h)) g
theorem gw_good {w : Cond} (h : w ∈ gw) : (w.onTables && w.keeps) = true ∨ ∃ ty, w = .arrayClass ty := good_of_word (List.mem_filter.mp h).2
/-! the world: cells at b, b + 1, .. by their offsets; launch, numbers and layouts, numbers of the kinds of rows, b -/
abbrev gE : Type := Nat → va_E
abbrev gG : Type := Launch × va_G × (Nat → ClassId) × Nat
abbrev gb (G : gG) : Nat := G.2.2.2
def gT (G : gG) : List (ClassId × FieldType) := [(G.2.2.1 0, .int), (G.2.2.1 1, .long), (G.2.2.1 2, .boolean), (G.2.2.1 3, .double), (G.2.2.1 4, .object RX4), (G.2.2.1 5, .array .int)]
abbrev gA (G : gG) : Nat → Prop := fun q => gb G ≤ q
def gW (G : gG) (ex : Bool) (N : Nat) (σ : gE) (H : Heap) : Prop := (∀ i, i < N → va_at G.2.1 vwCl (gb G + i, σ i) H) ∧ gb G + N ≤ H.size ∧ (ex = true → H.size = gb G + N)
theorem gW.put {G : gG} {ex : Bool} {N i : Nat} {σ : gE} {H H1 : Heap} {e : va_E} (h : gW G ex N σ H) (he : va_at G.2.1 vwCl (gb G + i, e) H1) (hz : H1.size = H.size) (hq : ∀ q : Nat, q ≠ gb G + i → H1[q]? = H[q]?) : gW G ex N (va_up σ i e) H1 := by
  refine ⟨fun j hj => ?_, by rw [hz]; exact h.2.1, fun x => by rw [hz]; exact h.2.2 x⟩
  by_cases c : j = i
  · subst c
    simpa [va_up] using he
  · have := (h.1 j hj).kept (H1 := H1) (hq (gb G + j) (by omega))
    simpa [va_up, c] using this
theorem gW.new {G : gG} {N : Nat} {σ : gE} {H H1 : Heap} {e : va_E} (h : gW G true N σ H) (he : va_at G.2.1 vwCl (gb G + N, e) H1) (hz : H1.size = H.size + 1) (hq : ∀ q : Nat, q < H.size → H1[q]? = H[q]?) : gW G true (N + 1) (va_up σ N e) H1 := by
  have hs := h.2.2 rfl
  refine ⟨fun j hj => ?_, by omega, fun _ => by omega⟩
  by_cases c : j = N
  · subst c
    simpa [va_up] using he
  · have := (h.1 j (by omega)).kept (H1 := H1) (hq (gb G + j) (by omega))
    simpa [va_up, c] using this
theorem gW.kept {G : gG} {ex : Bool} {N : Nat} {σ : gE} {H H1 : Heap} (h : gW G ex N σ H) (hz : H.size ≤ H1.size) (hq : ∀ q : Nat, q < H.size → H1[q]? = H[q]?) : gW G false N σ H1 :=
  ⟨fun j hj => (h.1 j hj).kept (hq _ (h.1 j hj).lt), Nat.le_trans h.2.1 hz, fun x => by cases x⟩
theorem gW.ex {G : gG} {ex : Bool} {N : Nat} {σ : gE} {H : Heap} (h : gW G ex N σ H) : gW G false N σ H := ⟨h.1, h.2.1, fun x => by cases x⟩
/-! texts, casts -/
def gStr : List (String × Nat × String) := [("ForkHall", 226, "there is no such path"), ("ForkHall", 54, "the content is out of range"), ("ForkHall", 228, "there is no such file"), ("ForkHall", 73, "there is a file with the other path"), ("ForkHall", 91, "the work tree has no changes"), ("ForkHall", 97, "no further commit has room"), ("ForkHall", 108, "the number is out of range"), ("ForkHall", 111, "the branch exists"), ("ForkHall", 235, "the branch does not exist"), ("ForkHall", 237, "the work tree has changes"), ("ForkHall", 233, "there is no such commit"), ("ForkHall", 130, "the current branch has all of the other one"), ("ForkHall", 138, "a conflict, or no room for a commit"), ("ForkHall", 141, "the other branch has all of the current one"), ("ForkHall", 155, "the second number is neither 0 nor 1"), ("ForkHall", 165, "the commit has no such parent"), ("ForkHall", 187, "the path was not moved"), ("ForkHall", 196, "no commit changed the path"), ("ForkHall", 205, "the content is not packed"), ("ForkHall", 210, "the content is not packed by a difference"), ("ForkHall", 220, "nothing is packed")]
def gCa : List (String × String) := [("java/lang/ArrayIndexOutOfBoundsException", "java/lang/ArrayIndexOutOfBoundsException"), ("java/lang/IndexOutOfBoundsException", "java/lang/IndexOutOfBoundsException"), ("java/lang/IllegalArgumentException", "java/lang/IllegalArgumentException"), ("java/util/NoSuchElementException", "java/util/NoSuchElementException"), ("java/lang/IllegalStateException", "java/lang/IllegalStateException"), ("java/lang/UnsupportedOperationException", "java/lang/UnsupportedOperationException"), ("java/lang/ArithmeticException", "java/lang/ArithmeticException"), ("java/lang/ArrayIndexOutOfBoundsException", "java/lang/IndexOutOfBoundsException"), ("ForkHall", "java/lang/Object"), ("ForkHall$History", "java/lang/Object"), ("ForkHall$Tree", "java/lang/Object"), ("ForkHall$TreeMerge", "java/lang/Object"), ("ForkHall$Comparison", "java/lang/Object"), ("ForkHall$Pack", "java/lang/Object"), ("ForkHallModel", "java/lang/Object"), ("java/lang/ArrayIndexOutOfBoundsException", "java/lang/Object"), ("java/lang/IndexOutOfBoundsException", "java/lang/Object"), ("java/lang/IllegalArgumentException", "java/lang/Object"), ("java/util/NoSuchElementException", "java/lang/Object"), ("java/lang/IllegalStateException", "java/lang/Object"), ("java/lang/UnsupportedOperationException", "java/lang/Object"), ("java/lang/ArithmeticException", "java/lang/Object"), ("java/lang/Throwable", "java/lang/Object"), ("java/lang/String", "java/lang/Object")]
def gNc : List (String × String) := [("java/lang/IllegalArgumentException", "java/lang/IndexOutOfBoundsException"), ("java/util/NoSuchElementException", "java/lang/IndexOutOfBoundsException"), ("java/lang/IllegalStateException", "java/lang/IndexOutOfBoundsException"), ("java/lang/UnsupportedOperationException", "java/lang/IndexOutOfBoundsException"), ("java/lang/ArithmeticException", "java/lang/IndexOutOfBoundsException"), ("java/lang/ArrayIndexOutOfBoundsException", "java/lang/IllegalArgumentException"), ("java/lang/IndexOutOfBoundsException", "java/lang/IllegalArgumentException"), ("java/util/NoSuchElementException", "java/lang/IllegalArgumentException"), ("java/lang/IllegalStateException", "java/lang/IllegalArgumentException"), ("java/lang/UnsupportedOperationException", "java/lang/IllegalArgumentException"), ("java/lang/ArithmeticException", "java/lang/IllegalArgumentException"), ("java/lang/ArrayIndexOutOfBoundsException", "java/util/NoSuchElementException"), ("java/lang/IndexOutOfBoundsException", "java/util/NoSuchElementException"), ("java/lang/IllegalArgumentException", "java/util/NoSuchElementException"), ("java/lang/IllegalStateException", "java/util/NoSuchElementException"), ("java/lang/UnsupportedOperationException", "java/util/NoSuchElementException"), ("java/lang/ArithmeticException", "java/util/NoSuchElementException"), ("java/lang/ArrayIndexOutOfBoundsException", "java/lang/IllegalStateException"), ("java/lang/IndexOutOfBoundsException", "java/lang/IllegalStateException"), ("java/lang/IllegalArgumentException", "java/lang/IllegalStateException"), ("java/util/NoSuchElementException", "java/lang/IllegalStateException"), ("java/lang/UnsupportedOperationException", "java/lang/IllegalStateException"), ("java/lang/ArithmeticException", "java/lang/IllegalStateException"), ("java/lang/ArrayIndexOutOfBoundsException", "java/lang/UnsupportedOperationException"), ("java/lang/IndexOutOfBoundsException", "java/lang/UnsupportedOperationException"), ("java/lang/IllegalArgumentException", "java/lang/UnsupportedOperationException"), ("java/util/NoSuchElementException", "java/lang/UnsupportedOperationException"), ("java/lang/IllegalStateException", "java/lang/UnsupportedOperationException"), ("java/lang/ArithmeticException", "java/lang/UnsupportedOperationException"), ("java/lang/ArrayIndexOutOfBoundsException", "java/lang/ArithmeticException"), ("java/lang/IndexOutOfBoundsException", "java/lang/ArithmeticException"), ("java/lang/IllegalArgumentException", "java/lang/ArithmeticException"), ("java/util/NoSuchElementException", "java/lang/ArithmeticException"), ("java/lang/IllegalStateException", "java/lang/ArithmeticException"), ("java/lang/UnsupportedOperationException", "java/lang/ArithmeticException")]
def gDc : List MethodName := [Bundle.initS "java/lang/RuntimeException", Bundle.initS "java/lang/Exception", Bundle.initS "java/lang/Throwable"]
def gU (G : gG) (U : State) : Prop :=
  va_K G.2.1 vwCl (gT G) U ∧ G.1.stackTraces = false ∧ (∀ q ∈ gStr, ∃ a, vk_R q.1 q.2.1 q.2.2 a U) ∧ (∀ q ∈ gCa, va_Nw (.castable q.1 q.2) U) ∧ (∀ q ∈ gNc, va_Nc q.1 q.2 U) ∧ (∀ q ∈ gDc, va_Nw (.declares q) U)
def gZ (G : gG) (U : State) (H : Heap) : Prop := vx_Zq Bundle.tN "UNASSIGNED_STACK" Bundle.steD (gA G) U H ∧ vx_Zq Bundle.tN "SUPPRESSED_SENTINEL" Bundle.listD (gA G) U H ∧ gb G ≤ H.size
theorem gU.warm {G : gG} {s U : State} (hW : s.WarmedH U.vm) (h : gU G s) : gU G U := by
  obtain ⟨h1, h2, h3, h4, h5, h6⟩ := h
  refine ⟨h1.moved hW.alike, h2, fun q hq => ?_, fun q hq => (h4 q hq).warmC hW, fun q hq => (h5 q hq).moved hW.alike, fun q hq => va_tabs rfl (rfl : (s.setVm U.vm).vm = U.vm) (by rw [Cond.declares_setVm hW.alike]; exact h6 q hq)⟩
  obtain ⟨a, ha⟩ := h3 q hq
  exact ⟨a, ha.warm hW⟩
theorem gZ.moved {G : gG} {s U : State} {H H1 : Heap} {locs : List Loc} (hvm : s.vm.Alike U.vm) (hS : va_S (gA G) H H1 locs) (h : gZ G s H) : gZ G U H1 :=
  ⟨vx_Zq.moved hvm (h.1.kept hS.2.1), vx_Zq.moved hvm (h.2.1.kept hS.2.1), Nat.le_trans h.2.2 hS.1⟩
/-! a method: name, bytes, locals, what it returns, its table -/
abbrev gM : Type := MethodName × ByteArray × Nat × Option FieldType × List (Nat × Nat × Nat × Nat)
def gCd (μ : gM) : Cond := match μ.2.2.2.2 with
  | [] => .code μ.1 μ.2.1 μ.2.2.1 μ.2.2.2.1
  | hh => .codeWith μ.1 μ.2.1 μ.2.2.1 μ.2.2.2.1 hh
abbrev gWs (μ : gM) : List Cond := gCd μ :: gw
abbrev gR : Type := Option Value ⊕ String
abbrev gF : Type := gR → Nat → gE → Prop
def gQ (G : gG) (ex : Bool) (Φ : gF) : Array Value → State → Outcome → State → Prop := fun _ st o t => (∃ (v : Option Value) (N : Nat) (σ : gE), o = .returned v ∧ Φ (.inl v) N σ ∧ gW G ex N σ t.heap) ∧ va_F (gA G) st t
def gXC (G : gG) (Φ : gF) : String → State → State → Prop := fun E st t => (∃ (N : Nat) (σ : gE), Φ (.inr E) N σ ∧ gW G false N σ t.heap) ∧ va_F (gA G) st t
def gPc (G : gG) (ex : Bool) (N : Nat) (av : List Value) (σ : gE) : Array Value → State → Prop := va_Pc av (fun U => gU G U ∧ gZ G U U.heap ∧ gW G ex N σ U.heap)
/-- a method's contract -/
def Sp (G : gG) (μ : gM) (rm : Room) (ex : Bool) (N : Nat) (av : List Value) (σ : gE) (Φ : gF) : Prop :=
  vx_Met G.1 μ.1 (gWs μ) rm (gPc G ex N av σ) (gQ G ex Φ) (gXC G Φ) rm.cells rm.slots (gA G)
theorem gPc_blind {G : gG} {ex : Bool} {N : Nat} {av : List Value} {σ : gE} : FrameBlind (gPc G ex N av σ) := by
  intro a U g mk h
  obtain ⟨h1, h2, h3, h4⟩ := h
  have hW : U.WarmedH (U.calling g mk a).vm := State.WarmedH.refl U
  exact ⟨h1, h2.warm hW, gZ.moved (H := U.heap) (H1 := U.heap) (locs := []) hW.alike va_S.rf h3, h4⟩
/-! a frame's surroundings -/
abbrev gX : Type := Program × Env × Room × State × MethodId × Array Value × List Frame × Method × Code × (State → Prop)
abbrev xp (X : gX) : Program := X.1
abbrev xe (X : gX) : Env := X.2.1
abbrev xR (X : gX) : Room := X.2.2.1
abbrev xs (X : gX) : State := X.2.2.2.1
abbrev xm (X : gX) : MethodId := X.2.2.2.2.1
abbrev xa (X : gX) : Array Value := X.2.2.2.2.2.1
abbrev xb (X : gX) : List Frame := X.2.2.2.2.2.2.1
abbrev xh (X : gX) : Method := X.2.2.2.2.2.2.2.1
abbrev xc (X : gX) : Code := X.2.2.2.2.2.2.2.2.1
abbrev xQ (X : gX) : State → Prop := X.2.2.2.2.2.2.2.2.2
def gC (G : gG) (X : gX) (own : String) (cc : ByteArray) (nL : Nat) (R : Room) : Prop :=
  (xp X).tables.exec = Jvm.exec ∧ (xc X).code = cc ∧ (xc X).maxLocals = nL ∧ (xs X).vm.findClass own = some (xm X).cls ∧ (∀ w ∈ gw, w.before (xa X) (xs X) = true) ∧ (xh X).locks = false ∧ gU G (xs X) ∧ gZ G (xs X) (xs X).heap ∧ xR X = R
def gCM (G : gG) (X : gX) (μ : gM) (rm : Room) (ex : Bool) (Φ : gF) : Prop :=
  xQ X = vx_MQ (xb X) (gQ G ex Φ) (gXC G Φ) (xa X) (xs X) rm.cells rm.slots (gA G) ∧ (xh X).sig.returnType = μ.2.2.2.1 ∧ (xc X).exceptionTable.toList = tableOf μ.2.2.2.2 ∧ (xh X).name = μ.1.name
/-! locals by their places -/
def gL : List (Option Value) → Nat → Option Value
  | [], _ => none
  | o :: _, 0 => o
  | _ :: t, i + 1 => gL t i
def gS : List (Option Value) → Nat → Option Value → List (Option Value)
  | [], _, _ => []
  | _ :: t, 0, v => v :: t
  | o :: t, i + 1, v => o :: gS t i v
/-- no value of two slots ends behind place i -/
def gN (lv : List (Option Value)) : Nat → Bool
  | 0 => true
  | i + 1 => match gL lv i with
    | some v => v.category == 1
    | none => true
theorem gL_S : ∀ (lv : List (Option Value)) (i j : Nat) (v : Option Value) (w : Value), gL (gS lv i v) j = some w → (j = i ∧ v = some w) ∨ (j ≠ i ∧ gL lv j = some w)
  | [], i, j, v, w, h => by cases h
  | o :: t, 0, 0, v, w, h => Or.inl ⟨rfl, h⟩
  | o :: t, 0, j + 1, v, w, h => Or.inr ⟨by omega, h⟩
  | o :: t, i + 1, 0, v, w, h => Or.inr ⟨by omega, h⟩
  | o :: t, i + 1, j + 1, v, w, h => by
    rcases gL_S t i j v w h with ⟨a, b⟩ | ⟨a, b⟩
    · exact Or.inl ⟨by omega, b⟩
    · exact Or.inr ⟨by omega, b⟩
def gH (ls : Array Slot) (nL : Nat) (lv : List (Option Value)) : Prop := ls.size = nL ∧ lv_wf ls ∧ ∀ (i : Nat) (v : Value), gL lv i = some v → ls[i]? = some (.val v)
def gPr (lv : List (Option Value)) : List (Nat × Value) := (List.range lv.length).filterMap (fun i => (gL lv i).map (fun v => (i, v)))
theorem gL_lt : ∀ (lv : List (Option Value)) (i : Nat) (v : Value), gL lv i = some v → i < lv.length
  | [], _, _, h => by cases h
  | _ :: t, 0, _, _ => by simp
  | _ :: t, i + 1, v, h => by
    have := gL_lt t i v h
    simp only [List.length_cons]
    omega
theorem gPr_mem {lv : List (Option Value)} {i : Nat} {v : Value} : (i, v) ∈ gPr lv ↔ gL lv i = some v := by
  constructor
  · intro h
    obtain ⟨j, hj, e⟩ := List.mem_filterMap.mp h
    cases hg : gL lv j with
    | none => rw [hg] at e; cases e
    | some w => rw [hg] at e; cases e; exact hg
  · intro h
    exact List.mem_filterMap.mpr ⟨i, List.mem_range.mpr (gL_lt lv i v h), by rw [h]; rfl⟩
theorem gH.has {ls : Array Slot} {nL : Nat} {lv : List (Option Value)} (h : gH ls nL lv) : lv_has ls nL (gPr lv) := ⟨h.1, h.2.1, fun q hq => h.2.2 q.1 q.2 (gPr_mem.mp hq)⟩
theorem gH.st1 {ls : Array Slot} {nL i : Nat} {lv : List (Option Value)} {v : Value} (hn : gN lv i = true) (h : lv_has ls nL ((i, v) :: (gPr lv).filter (fun q => !(q.1 == i) && !(q.1 + 1 == i && q.2.category == 2)))) : gH ls nL (gS lv i (some v)) := by
  refine ⟨h.1, h.2.1, fun j w hj => ?_⟩
  rcases gL_S lv i j (some v) w hj with ⟨a, b⟩ | ⟨a, b⟩
  · subst a
    cases b
    exact h.2.2 (j, v) List.mem_cons_self
  · refine h.2.2 (j, w) (List.mem_cons_of_mem _ (List.mem_filter.mpr ⟨gPr_mem.mpr b, ?_⟩))
    have h1 : (j == i) = false := by simp [a]
    have h2 : (j + 1 == i && w.category == 2) = false := by
      by_cases c : j + 1 = i
      · subst c
        simp only [gN, b] at hn
        have : w.category = 1 := by simpa using hn
        simp [this]
      · simp [c]
    simp [h1, h2]
theorem gH.st2 {ls : Array Slot} {nL i : Nat} {lv : List (Option Value)} {v : Value} (hn : gN lv i = true) (h : lv_has ls nL ((i, v) :: (gPr lv).filter (fun q => !(q.1 == i) && (!(q.1 == i + 1) && !(q.1 + 1 == i && q.2.category == 2))))) : gH ls nL (gS (gS lv i (some v)) (i + 1) none) := by
  refine ⟨h.1, h.2.1, fun j w hj => ?_⟩
  rcases gL_S _ _ _ _ _ hj with ⟨a, b⟩ | ⟨a0, b0⟩
  · cases b
  rcases gL_S lv i j (some v) w b0 with ⟨a, b⟩ | ⟨a, b⟩
  · subst a
    cases b
    exact h.2.2 (j, v) List.mem_cons_self
  · refine h.2.2 (j, w) (List.mem_cons_of_mem _ (List.mem_filter.mpr ⟨gPr_mem.mpr b, ?_⟩))
    have h1 : (j == i) = false := by simp [a]
    have h3 : (j == i + 1) = false := by simp [a0]
    have h2 : (j + 1 == i && w.category == 2) = false := by
      by_cases c : j + 1 = i
      · subst c
        simp only [gN, b] at hn
        have : w.category = 1 := by simpa using hn
        simp [this]
      · simp [c]
    simp [h1, h2, h3]
/-- fewer known locals -/
def gLe : List (Option Value) → List (Option Value) → Prop
  | [], _ => True
  | none :: t, _ :: t' => gLe t t'
  | some v :: t, o :: t' => o = some v ∧ gLe t t'
  | none :: t, [] => gLe t []
  | some _ :: _, [] => False
theorem gLe.get : ∀ (a b : List (Option Value)) (i : Nat) (v : Value), gLe a b → gL a i = some v → gL b i = some v
  | [], _, _, _, _, h => by cases h
  | none :: t, _ :: t', 0, v, _, h => by cases h
  | none :: t, _ :: t', i + 1, v, hl, h => gLe.get t t' i v hl h
  | some w :: t, o :: t', 0, v, hl, h => hl.1.trans h
  | some w :: t, o :: t', i + 1, v, hl, h => gLe.get t t' i v hl.2 h
  | none :: t, [], 0, v, _, h => by cases h
  | none :: t, [], i + 1, v, hl, h => by
    have := gLe.get t [] i v hl h
    cases this
  | some _ :: _, [], _, _, hl, _ => hl.elim
def gArgs : List Value → List (Option Value)
  | [] => []
  | v :: t => if v.category = 2 then some v :: none :: gArgs t else some v :: gArgs t
def gPad : Nat → List (Option Value) → List (Option Value)
  | 0, l => l
  | n + 1, [] => none :: gPad n []
  | n + 1, o :: t => o :: gPad n t
theorem gL_pad : ∀ (n : Nat) (l : List (Option Value)) (i : Nat) (v : Value), gL (gPad n l) i = some v → gL l i = some v
  | 0, _, _, _, h => h
  | n + 1, [], 0, v, h => by cases h
  | n + 1, [], i + 1, v, h => by
    have := gL_pad n [] i v h
    cases this
  | n + 1, o :: t, 0, v, h => h
  | n + 1, o :: t, i + 1, v, h => gL_pad n t i v h
theorem gL_args : ∀ (av : List Value) (k i : Nat) (v : Value), gL (gArgs av) i = some v → (k + i, v) ∈ lv_args k av
  | [], _, _, _, h => by cases h
  | w :: t, k, i, v, h => by
    unfold gArgs at h
    by_cases c : w.category = 2
    · rw [if_pos c] at h
      match i, h with
      | 0, h => cases h; exact List.mem_cons_self
      | 1, h => cases h
      | i + 2, h =>
        have := gL_args t (k + 2) i v h
        refine List.mem_cons_of_mem _ ?_
        rw [if_pos c]
        rwa [show k + (i + 2) = k + 2 + i by omega]
    · rw [if_neg c] at h
      match i, h with
      | 0, h => cases h; exact List.mem_cons_self
      | i + 1, h =>
        have := gL_args t (k + 1) i v h
        refine List.mem_cons_of_mem _ ?_
        rw [if_neg c]
        rwa [show k + (i + 1) = k + 1 + i by omega]
abbrev gEnt (av : List Value) (n : Nat) : List (Option Value) := gPad n (gArgs av)
theorem gH_entry (av : List Value) {n : Nat} (h : (lg_sl av).length ≤ n) : gH ((lg_sl av ++ List.replicate (n - (lg_sl av).length) Slot.unset).toArray) n (gEnt av n) := by
  obtain ⟨h1, h2, h3⟩ := lv_entry av h
  refine ⟨h1, h2, fun i v hi => ?_⟩
  have := gL_args av 0 i v (gL_pad _ _ _ _ hi)
  rw [Nat.zero_add] at this
  exact h3 (i, v) this
/-! the judgement: from here the frame comes to its end as X asks -/
def J (G : gG) (X : gX) (ex : Bool) (N k n : Nat) (pc : Nat) (lv : List (Option Value)) (st : List Value) (σ : gE) : Prop :=
  ∀ (H : Heap) (locs : List Loc) (ls : Array Slot), gW G ex N σ H → va_S (gA G) (xs X).heap H locs → gH ls (xc X).maxLocals lv →
    W (xp X) G.1 (xe X) (xR X) (xs X) (xm X) (xa X) (xb X) (xh X) (xc X) H locs k n (xQ X) (F0 (xm X) pc ls st)
/-- an object of E thrown at pc -/
def JX (G : gG) (X : gX) (N k n : Nat) (pc : Nat) (lv : List (Option Value)) (st : List Value) (σ : gE) (E : String) : Prop :=
  ∀ (H : Heap) (locs : List Loc) (ls : Array Slot) (q : Nat) (ce : Cell), gW G false N σ H → va_S (gA G) (xs X).heap H locs → gH ls (xc X).maxLocals lv → H[q]? = some ce → ce.vm = .none → (xs X).vm.findClass E = some ce.cls →
    vx_W (xp X) G.1 (xe X) (xR X) (xs X) (xm X) (xa X) (xb X) (xh X) (xc X) H locs k n (xQ X) (F0 (xm X) pc ls st) q
section JROWS
variable {G : gG} {X : gX} {own : String} {cc : ByteArray} {nL : Nat} {R : Room} {ex : Bool} {N k n pc : Nat} {lv : List (Option Value)} {st : List Value} {σ : gE}
theorem j_sub {lv' : List (Option Value)} (h : gLe lv' lv) (kk : J G X ex N k n pc lv' st σ) : J G X ex N k n pc lv st σ :=
  fun H locs ls hW hS hl => kk H locs ls hW hS ⟨hl.1, hl.2.1, fun i v hi => hl.2.2 i v (h.get _ _ _ _ hi)⟩
theorem j_ex (kk : J G X false N k n pc lv st σ) : J G X ex N k n pc lv st σ := fun H locs ls hW hS hl => kk H locs ls hW.ex hS hl
theorem j_wide {k' n' : Nat} (h1 : k ≤ k') (h2 : n ≤ n') (kk : J G X ex N k' n' pc lv st σ) : J G X ex N k n pc lv st σ := fun H locs ls hW hS hl => W.widen h1 h2 (kk H locs ls hW hS hl)
end JROWS
end
section
section GXT
variable {p : Program} {l : Launch} {e : Env} {R : Room} {s : State} {m : MethodId} {args : Array Value} {below : List Frame} {meth : Method} {c : Code} {locs : List Loc} {cells slots : Nat}
def gx_at (own : String) (ic : Nat) (X : String) (ix : Nat) (rx : ByteArray) (names : List String) : List Cond := (Bundle.ownAtomsX own ic X ix rx names).filter vx_no
set_option maxHeartbeats 1000000 in
/-- 'invokespecial <init>(text); athrow' where the maker's own call has the index ix (the core is Stand.ctorMessageOffV; the way to it as for the library's makers with index 7) -/
theorem gx_ctor {W : State} (X : Stand p l e R s m args below meth c W locs cells slots) (hexec : p.tables.exec = Jvm.exec) (htr : e.platform.stackTraces = false) {own cls : String} {names : List String} {ic ix : Nat} {rx : ByteArray}
    (x0 : decode rx 0 = .ok (.aload_n 0, 1)) (x1 : decode rx 1 = .ok (.aload_n 1, 1)) (x2 : decode rx 2 = .ok (.invokespecial ix, 3)) (x5 : decode rx 5 = .ok (.return_, 1))
    (hown : s.vm.findClass own = some m.cls) (hcls : Bundle.fit cls = true) (hnames : ∀ n ∈ names, Bundle.fit n = true) (h : ∀ a ∈ Bundle.ownAtomsX own ic cls ix rx names, a.before args s = true)
    (hlocs : ∀ x ∈ locs, ∀ cell, s.heap[x.base]? = some cell → cell.vm.isStatics = false)
    {a : Addr} {cX : ClassId} {kX : Class} (hfX : s.vm.findClass cls = some cX) (hkX : s.vm.classes[cX]? = some kX) (hcell : W.heap[a]? = some (freshCell cX kX)) (hnew : s.heap.size ≤ a) {msg : Value} (hmsg : msg.isRef = true)
    {g : JFrame} (hg : g.method = m) (hsize : g.locals.size = c.maxLocals) (hlocked : g.locked = none) (hentered : g.entered = []) {rest : List Value} (hstack : g.stack = msg :: .ref a :: .ref a :: rest)
    (hd6 : decode c.code g.pc = .ok (.invokespecial ic, 3)) (hd9 : decode c.code (g.pc + 3) = .ok (.athrow, 1)) (hout : ∀ x ∈ c.exceptionTable.toList, covers x (g.pc + 3) = false)
    (hRframes : names.length + 3 < R.frames) (hRlocals : 2 * g.monitorRoom + ((Value.ref a :: rest).map fun v => v.category).sum + (13 * (names.length + 1) + 42) ≤ R.locals) (hlocks : meth.locks = false) :
    ∃ U : State, Steps p.tables e below (W.setTop g) U ∧ U.status = .running ∧ Ended U below (.threw a) ∧ s.WarmedH U.vm ∧ s.sameButNew ({ U with vm := s.vm } : State) locs cells slots ∧ ∃ ce, U.heap[a]? = some ce ∧ s.vm.findClass cls = some ce.cls ∧ ce.vm = .none := by
  have hpl : e.platform.magicAccessors = ({} : Platform).magicAccessors := by rw [X.admits.platform]
  have howns : e.platform.frameOwnsMonitors = true := by rw [X.admits.platform]
  have hfin : e.platform.finalization = false := by rw [X.admits.platform]
  have inOwn : ∀ x, x ∈ Bundle.ownAtomsX own ic cls ix rx names → x.holds args s none s [] = true := fun x hx => h x hx
  obtain ⟨T, Z0, L, -, Y⟩ := ThrowableC.of_atoms (args := args) howns hfin hpl (fun x hx => h x (by simp [Bundle.ownAtomsX, hx]))
  obtain ⟨Z, M, LZ, LM, hnZ⟩ := Init0T.ofS_atoms (args := args) hpl L Y (fun x hx => h x (by simp [Bundle.ownAtomsX, hx]))
  obtain ⟨P1, Ps, hlen, L1, hL, hP1, hlink1, hlink⟩ := Bundle.chainSX (args := args) hpl hnZ x0 x1 x2 x5 names cls hcls hnames (fun x hx => h x (by simp [Bundle.ownAtomsX, hx]))
  have hfound : s.vm.findClass cls = some P1.m.cls := findClass_of_methodNamed hP1
  cases Option.some.inj (hfX.symm.trans hfound)
  obtain ⟨c1, kX2, hc1, hk, hord, -, -, -⟩ := Cond.instantiable_spec (inOwn (.instantiable cls 6) (by simp [Bundle.ownAtomsX]))
  cases Option.some.inj (hc1.symm.trans hfound)
  cases Option.some.inj (hkX.symm.trans hk)
  have sel : ∀ (z : MethodName) (k : MethodId), s.methodNamed? z = some k → (z.cls ≠ "java/lang/invoke/MethodHandle" ∧ z.cls ≠ "java/lang/invoke/VarHandle") → Cond.selects cls z z ∈ Bundle.ownAtomsX own ic cls ix rx names → selectMethod e.platform s.vm P1.m.cls k = .method k := by
    intro z k hz hzn hw
    obtain ⟨c2, r2, m2, q1, q2, q3, q4, -⟩ := Cond.selects_spec (inOwn _ hw)
    cases Option.some.inj (q1.symm.trans hfound)
    cases Option.some.inj (q2.symm.trans (State.methodFound?_of_named hz hzn))
    cases Option.some.inj (q3.symm.trans hz)
    rw [Launch.admits_selectMethod X.admits]
    exact q4
  obtain ⟨cellS0, hcS0, hiss⟩ := Y.statics
  obtain ⟨u0, hu0⟩ := Cond.staticRefV Y.unassigned L.unassignedStatic L.statics hcS0 hiss (inOwn (.isRef (.static Bundle.tN "UNASSIGNED_STACK" Bundle.steD)) (by simp [Bundle.ownAtomsX]))
  obtain ⟨sen, hsen⟩ := Cond.staticRefV Y.sentinel L.sentinelStatic L.statics hcS0 hiss (inOwn (.isRef (.static Bundle.tN "SUPPRESSED_SENTINEL" Bundle.listD)) (by simp [Bundle.ownAtomsX]))
  obtain ⟨ci198, i198, fB, hk198, hg198, ha198, hsB, -, hnB, htB, hfB⟩ := Cond.ownField (t := .object "java/lang/Object") Y.found L.cls (by decide +kernel) (inOwn (.fieldLink Bundle.tN 198 Bundle.tN "backtrace" "Ljava/lang/Object;") (by simp [Bundle.ownAtomsX])) (inOwn (.lays Bundle.tN Bundle.tN "backtrace" "Ljava/lang/Object;") (by simp [Bundle.ownAtomsX])) e.platform hpl
  obtain ⟨cellS, hcellS, heS, -, hkeep⟩ := X.same.2.2.2.2.2 T.aS cellS0 hcS0
  have apartS : ∀ i, (⟨T.aS, i⟩ : Loc) ∉ locs := fun i hmem => by
    have := hlocs _ hmem cellS0 hcS0
    rw [hiss] at this
    cases this
  have knownS : cellS.vm ≠ .unknown := by
    rw [heS]
    intro hu
    rw [show cellS0.vm = .unknown from hu] at hiss
    cases hiss
  have neS : T.aS ≠ a := Nat.ne_of_lt (Nat.lt_of_lt_of_le (Array.getElem?_eq_some_iff.mp hcS0).1 hnew)
  obtain ⟨iM, hfM⟩ := Y.msg
  obtain ⟨tyC, dC, hdC, hnC⟩ := Cond.laysAt hfound hk Y.cause (inOwn (.lays cls Bundle.tN "cause" "Ljava/lang/Throwable;") (by simp [Bundle.ownAtomsX]))
  obtain ⟨tyS, dS, hdS, hnS⟩ := Cond.laysAt hfound hk Y.stack (inOwn (.lays cls Bundle.tN "stackTrace" Bundle.steD) (by simp [Bundle.ownAtomsX]))
  obtain ⟨tyP, dP, hdP, hnP⟩ := Cond.laysAt hfound hk Y.supp (inOwn (.lays cls Bundle.tN "suppressedExceptions" Bundle.listD) (by simp [Bundle.ownAtomsX]))
  obtain ⟨tyM, dM, hdM, hnM⟩ := Cond.laysAt hfound hk hfM (inOwn (.lays cls Bundle.tN "detailMessage" "Ljava/lang/String;") (by simp [Bundle.ownAtomsX]))
  obtain ⟨tyB, dB, hdB, hnB2⟩ := Cond.laysAt hfound hk hfB (inOwn (.lays cls Bundle.tN "backtrace" "Ljava/lang/Object;") (by simp [Bundle.ownAtomsX]))
  have bC := Cond.laysApart hdB hdC hnB2 hnC (by rw [hnB, Y.causeName]; decide)
  have bS := Cond.laysApart hdB hdS hnB2 hnS (by rw [hnB, Y.stackName]; decide)
  have bP := Cond.laysApart hdB hdP hnB2 hnP (by rw [hnB, Y.suppName]; decide)
  have hskip : SkipFacts T e.platform s (fun u => u) u0 ((preparedCellV T.toThrowableT (freshCell P1.m.cls kX) a u0 sen).withEntry W.cur) := by
    refine ⟨{ ci198 := ci198, i198 := i198, fBack := fB }, ⟨hk198, hg198, ha198, hsB⟩, ?_, fun _ _ => rfl⟩
    have := fresh_default (c := P1.m.cls) tyB
    rw [htB] at this
    simpa [preparedCellV, Cell.setSlot, Cell.withEntry, Array.getElem?_setIfInBounds, bC, bS, bP, bC.symm, bS.symm, bP.symm, defaultValue] using this
  obtain ⟨tm, methC, cdC, kC, vm₁, hnC2, -, -, -, -, -, -, -, hW₁, st1⟩ := Steps.initColdS (tb := p.tables) (e := e) (below := below) (s := s) (U := W) X.here hexec X.warmed hpl hown (t := Bundle.initS cls) rfl rfl (Bundle.fit_spec hcls).2
    (inOwn (.methodLink own ic (Bundle.initS cls)) (by simp [Bundle.ownAtomsX])) (h (.instanceMethod (Bundle.initS cls)) (by cases names <;> simp [Bundle.ownAtomsX, Bundle.chainSAtomsX, Bundle.passSAtoms])) (bytes := rx) (maxL := 2) (h (.code (Bundle.initS cls) rx 2 none) (by cases names <;> simp [Bundle.ownAtomsX, Bundle.chainSAtomsX, Bundle.passSAtoms]))
    (f := g) hg (a := a) (msg := msg) (rest := .ref a :: rest) hstack hd6
  cases Option.some.inj (hnC2.symm.trans hP1)
  have X₁ := X.noted hW₁
  obtain ⟨vm₂, X₂, st2⟩ := X₁.ctorMessageOffV hexec (g := { g with stack := .ref a :: rest }) hg hsize T L Z LZ M LM (P1 :: Ps)
    (fun P hP => by rcases List.mem_cons.mp hP with rfl | hP; exact L1; exact hL P hP) ⟨hlink1, hlink⟩ (u0 := u0) (sen := sen) (self := a) hmsg (cell := freshCell P1.m.cls kX) (cellS := cellS)
    hcell (fun _ => by simp) (by simp) rfl rfl (sel _ _ Y.fill0 (by decide) (by simp [Bundle.ownAtomsX])) (sel _ _ Y.fill (by decide) (by simp [Bundle.ownAtomsX])) hcellS neS knownS (by rw [hkeep _ (apartS _)]; exact hu0) (by rw [hkeep _ (apartS _)]; exact hsen)
    (Takes.of_laid hk hord tyC (by rw [Y.causeType]; rfl)) (Takes.of_laid hk hord tyS (by rw [Y.stackType]; exact fits_refV_array _ u0)) (Takes.of_laid hk hord tyP (by rw [Y.suppType]; exact fits_refV_object _ sen))
    (Takes.of_laid hk hord tyM (by rw [Y.msgType]; exact fits_refV_object _ ⟨msg, hmsg⟩)) Y.objLocals hskip htr [] hd6
    (by simp only [List.length_cons, hlen]; omega) (by simp only [List.length_cons, hlen]; exact hRlocals)
  obtain ⟨hwalk, hrun, hended, hWU, hsame⟩ := X₂.athrowLeaves hexec (g := { g with stack := .ref a :: rest, pc := g.pc + 3 }) hg hlocked hentered hout (a := a) (rest := rest) rfl hd9 hlocks
  have hlt : a < ((W.setVm vm₁).setVm vm₂).heap.size := (Array.getElem?_eq_some_iff.mp hcell).1
  have hU := heapAt_setCell_self (s := (W.setVm vm₁).setVm vm₂) (plainBareV T.toThrowableT (freshCell P1.m.cls kX) a u0 sen msg) hlt
  refine ⟨_, st1 _ (fun acts => ?_), hrun, hended, hWU, hsame.weaken (fun y hy hlt2 => ?_) (Nat.le_refl _) (Nat.le_refl _), _, hU, hfound, rfl⟩
  · rw [doInvoke_state]
    exact st2 _ hwalk
  · rcases List.mem_append.mp hy with h1 | h1
    · exact h1
    · exfalso
      have hb : y.base = a := by
        simp only [List.mem_cons, List.not_mem_nil, or_false] at h1
        rcases h1 with rfl | rfl | rfl | rfl | rfl <;> rfl
      rw [hb] at hlt2
      exact Nat.not_lt.mpr hnew hlt2
variable {H : Heap} {free : Addr → Prop} {ls : Array Slot} {rest : List Value} {Qc : Array Value → State → Outcome → State → Prop} {XC : String → State → State → Prop}
theorem gx_throw {cc : ByteArray} {pc ix : Nat} {rx : ByteArray} (x0 : decode rx 0 = .ok (.aload_n 0, 1)) (x1 : decode rx 1 = .ok (.aload_n 1, 1)) (x2 : decode rx 2 = .ok (.invokespecial ix, 3)) (x5 : decode rx 5 = .ok (.return_, 1)) (hexec : p.tables.exec = Jvm.exec) (hb : c.code = cc) (hl : l.stackTraces = false) {own cls text : String} {names : List String} {ik is ic mc ms sa : Nat} {A : Nat → Prop}
    (hown : s.vm.findClass own = some m.cls) (hcls : Bundle.fit cls = true) (hnames : ∀ n ∈ names, Bundle.fit n = true)
    (hk : (Cond.classLink own ik cls).before args s = true) (hini : (Cond.initialized cls).before args s = true) (hstr : vk_R own is text sa s) (hat : ∀ w ∈ gx_at own ic cls ix rx names, w.before args s = true)
    (hgood : ∀ w ∈ Cond.classLink own ik cls :: Cond.initialized cls :: gx_at own ic cls ix rx names, vx_ot w = true)
    (hU : vx_Zq Bundle.tN "UNASSIGNED_STACK" Bundle.steD A s s.heap) (hN : vx_Zq Bundle.tN "SUPPRESSED_SENTINEL" Bundle.listD A s s.heap) (hS : va_S A s.heap H locs) (hsize : ls.size = c.maxLocals)
    (d0 : decode cc pc = .ok (.new ik, 3)) (d3 : decode cc (pc + 3) = .ok (.dup, 1)) (d4 : decode cc (pc + 4) = .ok (.ldc is, 2)) (d6 : decode cc (pc + 6) = .ok (.invokespecial ic, 3)) (d9 : decode cc (pc + 9) = .ok (.athrow, 1))
    (hout : ∀ x ∈ c.exceptionTable.toList, covers x (pc + 9) = false)
    (hRframes : names.length + 3 < R.frames) (hRlocals : (rest.map fun v => v.category).sum + (13 * (names.length + 1) + 43) ≤ R.locals) (hRcells : cells + 1 ≤ R.cells) (hRslots : slots + 6 ≤ R.slots) (hlocks : meth.locks = false)
    (hx : ∀ t : State, s.vm.Alike t.vm → H.size ≤ t.heap.size → (∀ q : Nat, q < H.size → t.heap[q]? = H[q]?) → XC cls s t)
    (hf : ∀ z ∈ locs, free z.base) (hc : cells + 1 ≤ mc) (hs : slots + 6 ≤ ms) :
    W p l e R s m args below meth c H locs cells slots (vx_MQ below Qc XC args s mc ms free) (F0 m pc ls rest) := by
  intro T hT X
  have htr : e.platform.stackTraces = false := (show e.platform.stackTraces = l.stackTraces by rw [X.admits.platform]).trans hl
  have Y := vx_rebase X (R' := { frames := R.frames, locals := R.locals, cells := 1, slots := 6 }) (Nat.le_refl _) (Nat.le_refl _) hRcells hRslots
  obtain ⟨s2, hA⟩ : ∃ z, z = (T.setVm s.vm).setFrames (.invoking m args :: below) := ⟨_, rfl⟩
  rw [← hA] at Y
  have hvm : s2.vm = s.vm := by rw [hA]; rfl
  have hhp : s2.heap = H := by rw [hA]; exact hT
  have hW0 : s.WarmedH s2.vm := by rw [hvm]; exact State.WarmedH.refl s
  have tr : ∀ w ∈ Cond.classLink own ik cls :: Cond.initialized cls :: gx_at own ic cls ix rx names, w.before args s = true → w.before args s2 = true := fun w hw hb => vx_ot_at hW0 hvm.symm (hgood w hw) hb
  have hU2 : vx_Zq Bundle.tN "UNASSIGNED_STACK" Bundle.steD A s2 s2.heap := by rw [hhp]; exact vx_Zq.moved hW0.alike (hU.kept hS.2.1)
  have hN2 : vx_Zq Bundle.tN "SUPPRESSED_SENTINEL" Bundle.listD A s2 s2.heap := by rw [hhp]; exact vx_Zq.moved hW0.alike (hN.kept hS.2.1)
  have h : ∀ w ∈ Bundle.ownAtomsX own ic cls ix rx names, w.before args s2 = true := vx_own (fun w hw => tr w (List.mem_cons_of_mem _ (List.mem_cons_of_mem _ hw)) (hat w hw)) (vx_isRefq hU2.1) (vx_isRefq hN2.1) hU2.2.word hN2.2.word
  have hown2 : s2.vm.findClass own = some m.cls := by rw [hvm]; exact hown
  obtain ⟨vm₁, cX, kX, hfX, hkX, -, -, X₁, st1⟩ := Y.newCold hexec (own := own) (C := cls) (index := ik) (n := 6) hown2 (tr _ List.mem_cons_self hk) (h _ (by simp [Bundle.ownAtomsX])) (tr _ (List.mem_cons_of_mem _ List.mem_cons_self) hini)
    (g := F0 m pc ls rest) rfl (by rw [hb]; exact d0) (Nat.le_refl _) (Nat.le_refl _)
  generalize hT1 : (T.setVm vm₁).pushCell { cls := cX, slots := kX.instanceTypes.map defaultValue, vm := .none } = T1 at X₁ st1
  have hcat : (Value.ref T.heap.size).category = 1 := rfl
  have hcellA : T1.heap[T.heap.size]? = some (freshCell cX kX) := by rw [← hT1]; exact State.heap_pushCell_size _ _
  have d32 : decode c.code (pc + 3) = .ok (.dup, 1) := by rw [hb]; exact d3
  have d42 : decode c.code (pc + 4) = .ok (.ldc is, 2) := by rw [hb]; exact d4
  have hstr2 : vk_R own is text sa s2 := vk_R.warm hW0 hstr
  obtain ⟨U, hsteps, hrun, hend, hW, hsame, ce, hce, hcc, hcv⟩ := gx_ctor X₁ hexec htr x0 x1 x2 x5 (own := own) (cls := cls) (names := names) (ic := ic) hown2 hcls hnames h (fun x hx => nomatch hx) hfX hkX hcellA (by rw [hhp, hT]; exact Nat.le_refl _) (msg := .ref sa) rfl
    (g := { method := m, pc := pc + 6, locals := ls, stack := .ref sa :: .ref T.heap.size :: .ref T.heap.size :: rest, locked := none }) rfl hsize rfl rfl (rest := rest) rfl
    (by rw [hb]; exact d6) (by rw [hb]; exact d9) hout hRframes (by simp only [List.map_cons, List.sum_cons, hcat]; omega) hlocks
  obtain ⟨f1, f2⟩ := vx_frame hsame
  rw [hhp] at f1 f2
  have hWs : s.WarmedH U.vm := State.WarmedH.trans hW0 hW
  have hall : s.sameButNew ({ U with vm := s.vm } : State) locs mc ms := by
    subst hA
    obtain ⟨e1, e2⟩ := hsame
    rw [State.setFrames_setFrames] at e1
    have h2 : (T.setVm s.vm).sameButNew ({ U with vm := s.vm } : State) [] (0 + 1) (0 + 6) := ⟨e1, e2⟩
    have h3 := X.same.trans h2
    rw [List.append_nil] at h3
    exact h3.mono hc hs
  refine ⟨U, ?_, .threw T.heap.size, hrun, hend, Or.inr ⟨T.heap.size, rfl, cls, ce, locs, hx U hWs.alike f1 (fun q hq => f2 q hq (fun z hz => nomatch hz)), hce, hcv, by rw [← hvm]; exact hcc, hWs, hall, hf⟩⟩
  refine st1 _ ?_
  show Steps p.tables e below (T1.setTop { method := m, pc := pc + 3, locals := ls, stack := .ref T.heap.size :: rest, locked := none }) _
  jvm_step X₁.here [X₁.here.top, hexec, d32, Value.category]
  exact X₁.ldcString hexec (own := own) (text := text) (index := is) (a := sa) hown2 hstr2.1 hstr2.2
    (g := { method := m, pc := pc + 4, locals := ls, stack := .ref T.heap.size :: .ref T.heap.size :: rest, locked := none }) rfl d42 _ hsteps
end GXT
end
section
section JROWS
variable {G : gG} {X : gX} {own : String} {cc : ByteArray} {nL : Nat} {R : Room} {ex : Bool} {N k n pc : Nat} {lv : List (Option Value)} {st : List Value} {σ : gE}
theorem j_iconst (C : gC G X own cc nL R) {z : Int} {v : Int32} (d : decode cc pc = .ok (.iconst z, 1)) (hv : Int32.ofInt z = v := by rfl) (kk : J G X ex N k n (pc + 1) lv (.int v :: st) σ) : J G X ex N k n pc lv st σ := fun H locs ls hW hS hl => lv_iconst C.1 C.2.1 d hv (kk H locs ls hW hS hl)
theorem j_bipush (C : gC G X own cc nL R) {z : Int} {v : Int32} (d : decode cc pc = .ok (.bipush z, 2)) (hv : (Int8.ofInt z).toInt32 = v := by rfl) (kk : J G X ex N k n (pc + 2) lv (.int v :: st) σ) : J G X ex N k n pc lv st σ := fun H locs ls hW hS hl => lv_bipush C.1 C.2.1 d hv (kk H locs ls hW hS hl)
theorem j_sipush (C : gC G X own cc nL R) {z : Int} {v : Int32} (d : decode cc pc = .ok (.sipush z, 3)) (hv : (Int16.ofInt z).toInt32 = v := by rfl) (kk : J G X ex N k n (pc + 3) lv (.int v :: st) σ) : J G X ex N k n pc lv st σ := fun H locs ls hW hS hl => lv_sipush C.1 C.2.1 d hv (kk H locs ls hW hS hl)
theorem j_lconst (C : gC G X own cc nL R) {z : Fin 2} {v : Int64} (d : decode cc pc = .ok (.lconst z, 1)) (hv : Int64.ofNat (z : Nat) = v := by rfl) (kk : J G X ex N k n (pc + 1) lv (.long v :: st) σ) : J G X ex N k n pc lv st σ := fun H locs ls hW hS hl => lv_lconst C.1 C.2.1 d hv (kk H locs ls hW hS hl)
theorem j_dconst0 (C : gC G X own cc nL R)  (d : decode cc pc = .ok (.dconst 0, 1)) (kk : J G X ex N k n (pc + 1) lv (.double FP.dconst0 :: st) σ) : J G X ex N k n pc lv st σ := fun H locs ls hW hS hl => lv_dconst0 C.1 C.2.1 d (kk H locs ls hW hS hl)
theorem j_fconst0 (C : gC G X own cc nL R)  (d : decode cc pc = .ok (.fconst 0, 1)) (kk : J G X ex N k n (pc + 1) lv (.float FP.fconst0 :: st) σ) : J G X ex N k n pc lv st σ := fun H locs ls hW hS hl => lv_fconst0 C.1 C.2.1 d (kk H locs ls hW hS hl)
theorem j_iload_n (C : gC G X own cc nL R) {i : Fin 4} {x : Int32} (d : decode cc pc = .ok (.iload_n i, 1)) (h : gL lv i.val = some (.int x) := by rfl) (kk : J G X ex N k n (pc + 1) lv (.int x :: st) σ) : J G X ex N k n pc lv st σ := fun H locs ls hW hS hl => lv_iload_n C.1 C.2.1 d rfl (hl.2.2 _ _ h) (kk H locs ls hW hS hl)
theorem j_iload (C : gC G X own cc nL R) {i : Nat} {x : Int32} (d : decode cc pc = .ok (.iload i, 2)) (h : gL lv i = some (.int x) := by rfl) (kk : J G X ex N k n (pc + 2) lv (.int x :: st) σ) : J G X ex N k n pc lv st σ := fun H locs ls hW hS hl => lv_iload C.1 C.2.1 d (hl.2.2 _ _ h) (kk H locs ls hW hS hl)
theorem j_istore_n (C : gC G X own cc nL R) {i : Fin 4} {x : Int32} (d : decode cc pc = .ok (.istore_n i, 1)) (hi : i.val < nL := by decide) (h : gN lv i.val = true := by rfl) (kk : J G X ex N k n (pc + 1) (gS lv i.val (some (.int x))) st σ) : J G X ex N k n pc lv (.int x :: st) σ := fun H locs ls hW hS hl => lv_istore_n C.1 C.2.1 d rfl hl.has (by rw [C.2.2.1]; exact hi) rfl (fun ls2 hl2 => kk H locs ls2 hW hS (.st1 h hl2))
theorem j_istore (C : gC G X own cc nL R) {i : Nat} {x : Int32} (d : decode cc pc = .ok (.istore i, 2)) (hi : i < nL := by decide) (h : gN lv i = true := by rfl) (kk : J G X ex N k n (pc + 2) (gS lv i (some (.int x))) st σ) : J G X ex N k n pc lv (.int x :: st) σ := fun H locs ls hW hS hl => lv_istore C.1 C.2.1 d hl.has (by rw [C.2.2.1]; exact hi) rfl (fun ls2 hl2 => kk H locs ls2 hW hS (.st1 h hl2))
theorem j_lload_n (C : gC G X own cc nL R) {i : Fin 4} {x : Int64} (d : decode cc pc = .ok (.lload_n i, 1)) (h : gL lv i.val = some (.long x) := by rfl) (kk : J G X ex N k n (pc + 1) lv (.long x :: st) σ) : J G X ex N k n pc lv st σ := fun H locs ls hW hS hl => lv_lload_n C.1 C.2.1 d rfl (hl.2.2 _ _ h) (kk H locs ls hW hS hl)
theorem j_lload (C : gC G X own cc nL R) {i : Nat} {x : Int64} (d : decode cc pc = .ok (.lload i, 2)) (h : gL lv i = some (.long x) := by rfl) (kk : J G X ex N k n (pc + 2) lv (.long x :: st) σ) : J G X ex N k n pc lv st σ := fun H locs ls hW hS hl => lv_lload C.1 C.2.1 d (hl.2.2 _ _ h) (kk H locs ls hW hS hl)
theorem j_lstore_n (C : gC G X own cc nL R) {i : Fin 4} {x : Int64} (d : decode cc pc = .ok (.lstore_n i, 1)) (hi : i.val + 1 < nL := by decide) (h : gN lv i.val = true := by rfl) (kk : J G X ex N k n (pc + 1) (gS (gS lv i.val (some (.long x))) (i.val + 1) none) st σ) : J G X ex N k n pc lv (.long x :: st) σ := fun H locs ls hW hS hl => lv_lstore_n C.1 C.2.1 d rfl hl.has (by rw [C.2.2.1]; exact hi) rfl (fun ls2 hl2 => kk H locs ls2 hW hS (.st2 h hl2))
theorem j_lstore (C : gC G X own cc nL R) {i : Nat} {x : Int64} (d : decode cc pc = .ok (.lstore i, 2)) (hi : i + 1 < nL := by decide) (h : gN lv i = true := by rfl) (kk : J G X ex N k n (pc + 2) (gS (gS lv i (some (.long x))) (i + 1) none) st σ) : J G X ex N k n pc lv (.long x :: st) σ := fun H locs ls hW hS hl => lv_lstore C.1 C.2.1 d hl.has (by rw [C.2.2.1]; exact hi) rfl (fun ls2 hl2 => kk H locs ls2 hW hS (.st2 h hl2))
theorem j_aload_n (C : gC G X own cc nL R) {i : Fin 4} {x : Nat} (d : decode cc pc = .ok (.aload_n i, 1)) (h : gL lv i.val = some (.ref x) := by rfl) (kk : J G X ex N k n (pc + 1) lv (.ref x :: st) σ) : J G X ex N k n pc lv st σ := fun H locs ls hW hS hl => lv_aload_n C.1 C.2.1 d rfl (hl.2.2 _ _ h) (kk H locs ls hW hS hl)
theorem j_aload (C : gC G X own cc nL R) {i : Nat} {x : Nat} (d : decode cc pc = .ok (.aload i, 2)) (h : gL lv i = some (.ref x) := by rfl) (kk : J G X ex N k n (pc + 2) lv (.ref x :: st) σ) : J G X ex N k n pc lv st σ := fun H locs ls hW hS hl => lv_aload C.1 C.2.1 d (hl.2.2 _ _ h) (kk H locs ls hW hS hl)
theorem j_astore_n (C : gC G X own cc nL R) {i : Fin 4} {x : Nat} (d : decode cc pc = .ok (.astore_n i, 1)) (hi : i.val < nL := by decide) (h : gN lv i.val = true := by rfl) (kk : J G X ex N k n (pc + 1) (gS lv i.val (some (.ref x))) st σ) : J G X ex N k n pc lv (.ref x :: st) σ := fun H locs ls hW hS hl => lv_astore_n C.1 C.2.1 d rfl hl.has (by rw [C.2.2.1]; exact hi) rfl (fun ls2 hl2 => kk H locs ls2 hW hS (.st1 h hl2))
theorem j_astore (C : gC G X own cc nL R) {i : Nat} {x : Nat} (d : decode cc pc = .ok (.astore i, 2)) (hi : i < nL := by decide) (h : gN lv i = true := by rfl) (kk : J G X ex N k n (pc + 2) (gS lv i (some (.ref x))) st σ) : J G X ex N k n pc lv (.ref x :: st) σ := fun H locs ls hW hS hl => lv_astore C.1 C.2.1 d hl.has (by rw [C.2.2.1]; exact hi) rfl (fun ls2 hl2 => kk H locs ls2 hW hS (.st1 h hl2))
theorem j_dload_n (C : gC G X own cc nL R) {i : Fin 4} {x : UInt64} (d : decode cc pc = .ok (.dload_n i, 1)) (h : gL lv i.val = some (.double x) := by rfl) (kk : J G X ex N k n (pc + 1) lv (.double x :: st) σ) : J G X ex N k n pc lv st σ := fun H locs ls hW hS hl => lv_dload_n C.1 C.2.1 d rfl (hl.2.2 _ _ h) (kk H locs ls hW hS hl)
theorem j_dload (C : gC G X own cc nL R) {i : Nat} {x : UInt64} (d : decode cc pc = .ok (.dload i, 2)) (h : gL lv i = some (.double x) := by rfl) (kk : J G X ex N k n (pc + 2) lv (.double x :: st) σ) : J G X ex N k n pc lv st σ := fun H locs ls hW hS hl => lv_dload C.1 C.2.1 d (hl.2.2 _ _ h) (kk H locs ls hW hS hl)
theorem j_dstore_n (C : gC G X own cc nL R) {i : Fin 4} {x : UInt64} (d : decode cc pc = .ok (.dstore_n i, 1)) (hi : i.val + 1 < nL := by decide) (h : gN lv i.val = true := by rfl) (kk : J G X ex N k n (pc + 1) (gS (gS lv i.val (some (.double x))) (i.val + 1) none) st σ) : J G X ex N k n pc lv (.double x :: st) σ := fun H locs ls hW hS hl => lv_dstore_n C.1 C.2.1 d rfl hl.has (by rw [C.2.2.1]; exact hi) rfl (fun ls2 hl2 => kk H locs ls2 hW hS (.st2 h hl2))
theorem j_dstore (C : gC G X own cc nL R) {i : Nat} {x : UInt64} (d : decode cc pc = .ok (.dstore i, 2)) (hi : i + 1 < nL := by decide) (h : gN lv i = true := by rfl) (kk : J G X ex N k n (pc + 2) (gS (gS lv i (some (.double x))) (i + 1) none) st σ) : J G X ex N k n pc lv (.double x :: st) σ := fun H locs ls hW hS hl => lv_dstore C.1 C.2.1 d hl.has (by rw [C.2.2.1]; exact hi) rfl (fun ls2 hl2 => kk H locs ls2 hW hS (.st2 h hl2))
theorem j_fload_n (C : gC G X own cc nL R) {i : Fin 4} {x : UInt32} (d : decode cc pc = .ok (.fload_n i, 1)) (h : gL lv i.val = some (.float x) := by rfl) (kk : J G X ex N k n (pc + 1) lv (.float x :: st) σ) : J G X ex N k n pc lv st σ := fun H locs ls hW hS hl => lv_fload_n C.1 C.2.1 d rfl (hl.2.2 _ _ h) (kk H locs ls hW hS hl)
theorem j_fload (C : gC G X own cc nL R) {i : Nat} {x : UInt32} (d : decode cc pc = .ok (.fload i, 2)) (h : gL lv i = some (.float x) := by rfl) (kk : J G X ex N k n (pc + 2) lv (.float x :: st) σ) : J G X ex N k n pc lv st σ := fun H locs ls hW hS hl => lv_fload C.1 C.2.1 d (hl.2.2 _ _ h) (kk H locs ls hW hS hl)
theorem j_fstore_n (C : gC G X own cc nL R) {i : Fin 4} {x : UInt32} (d : decode cc pc = .ok (.fstore_n i, 1)) (hi : i.val < nL := by decide) (h : gN lv i.val = true := by rfl) (kk : J G X ex N k n (pc + 1) (gS lv i.val (some (.float x))) st σ) : J G X ex N k n pc lv (.float x :: st) σ := fun H locs ls hW hS hl => lv_fstore_n C.1 C.2.1 d rfl hl.has (by rw [C.2.2.1]; exact hi) rfl (fun ls2 hl2 => kk H locs ls2 hW hS (.st1 h hl2))
theorem j_fstore (C : gC G X own cc nL R) {i : Nat} {x : UInt32} (d : decode cc pc = .ok (.fstore i, 2)) (hi : i < nL := by decide) (h : gN lv i = true := by rfl) (kk : J G X ex N k n (pc + 2) (gS lv i (some (.float x))) st σ) : J G X ex N k n pc lv (.float x :: st) σ := fun H locs ls hW hS hl => lv_fstore C.1 C.2.1 d hl.has (by rw [C.2.2.1]; exact hi) rfl (fun ls2 hl2 => kk H locs ls2 hW hS (.st1 h hl2))
theorem j_iinc (C : gC G X own cc nL R) {i : Nat} {z : Int} {x : Int32} (d : decode cc pc = .ok (.iinc i z, 3)) (h : gL lv i = some (.int x) := by rfl) (hi : i < nL := by decide) (hn : gN lv i = true := by rfl) (kk : J G X ex N k n (pc + 3) (gS lv i (some (.int (x + Int32.ofInt z)))) st σ) : J G X ex N k n pc lv st σ := fun H locs ls hW hS hl => by
  have hm := gPr_mem.mpr h
  obtain ⟨q, hq⟩ := List.getElem?_of_mem hm
  exact lv_iinc C.1 C.2.1 d hl.has hq rfl (by rw [C.2.2.1]; exact hi) rfl (fun ls2 hl2 => kk H locs ls2 hW hS (.st1 hn hl2))
theorem j_iadd (C : gC G X own cc nL R) {x y : Int32} (d : decode cc pc = .ok (.iadd, 1)) (kk : J G X ex N k n (pc + 1) lv (.int (x + y) :: st) σ) : J G X ex N k n pc lv (.int y :: .int x :: st) σ := fun H locs ls hW hS hl => lv_iadd C.1 C.2.1 d (kk H locs ls hW hS hl)
theorem j_isub (C : gC G X own cc nL R) {x y : Int32} (d : decode cc pc = .ok (.isub, 1)) (kk : J G X ex N k n (pc + 1) lv (.int (x - y) :: st) σ) : J G X ex N k n pc lv (.int y :: .int x :: st) σ := fun H locs ls hW hS hl => lv_isub C.1 C.2.1 d (kk H locs ls hW hS hl)
theorem j_imul (C : gC G X own cc nL R) {x y : Int32} (d : decode cc pc = .ok (.imul, 1)) (kk : J G X ex N k n (pc + 1) lv (.int (x * y) :: st) σ) : J G X ex N k n pc lv (.int y :: .int x :: st) σ := fun H locs ls hW hS hl => lv_imul C.1 C.2.1 d (kk H locs ls hW hS hl)
theorem j_iand (C : gC G X own cc nL R) {x y : Int32} (d : decode cc pc = .ok (.iand, 1)) (kk : J G X ex N k n (pc + 1) lv (.int (x &&& y) :: st) σ) : J G X ex N k n pc lv (.int y :: .int x :: st) σ := fun H locs ls hW hS hl => lv_iand C.1 C.2.1 d (kk H locs ls hW hS hl)
theorem j_ior (C : gC G X own cc nL R) {x y : Int32} (d : decode cc pc = .ok (.ior, 1)) (kk : J G X ex N k n (pc + 1) lv (.int (x ||| y) :: st) σ) : J G X ex N k n pc lv (.int y :: .int x :: st) σ := fun H locs ls hW hS hl => lv_ior C.1 C.2.1 d (kk H locs ls hW hS hl)
theorem j_irem (C : gC G X own cc nL R) {x y : Int32} (d : decode cc pc = .ok (.irem, 1)) (hne : ¬ y = 0 := by decide) (kk : J G X ex N k n (pc + 1) lv (.int (x - x / y * y) :: st) σ) : J G X ex N k n pc lv (.int y :: .int x :: st) σ := fun H locs ls hW hS hl => lv_irem C.1 C.2.1 d hne (kk H locs ls hW hS hl)
theorem j_idiv (C : gC G X own cc nL R) {x y : Int32} (d : decode cc pc = .ok (.idiv, 1)) (hne : ¬ y = 0 := by decide) (kk : J G X ex N k n (pc + 1) lv (.int (x / y) :: st) σ) : J G X ex N k n pc lv (.int y :: .int x :: st) σ := fun H locs ls hW hS hl => lv_idiv C.1 C.2.1 d hne (kk H locs ls hW hS hl)
theorem j_ladd (C : gC G X own cc nL R) {x y : Int64} (d : decode cc pc = .ok (.ladd, 1)) (kk : J G X ex N k n (pc + 1) lv (.long (x + y) :: st) σ) : J G X ex N k n pc lv (.long y :: .long x :: st) σ := fun H locs ls hW hS hl => lv_ladd C.1 C.2.1 d (kk H locs ls hW hS hl)
theorem j_lsub (C : gC G X own cc nL R) {x y : Int64} (d : decode cc pc = .ok (.lsub, 1)) (kk : J G X ex N k n (pc + 1) lv (.long (x - y) :: st) σ) : J G X ex N k n pc lv (.long y :: .long x :: st) σ := fun H locs ls hW hS hl => lv_lsub C.1 C.2.1 d (kk H locs ls hW hS hl)
theorem j_lmul (C : gC G X own cc nL R) {x y : Int64} (d : decode cc pc = .ok (.lmul, 1)) (kk : J G X ex N k n (pc + 1) lv (.long (x * y) :: st) σ) : J G X ex N k n pc lv (.long y :: .long x :: st) σ := fun H locs ls hW hS hl => lv_lmul C.1 C.2.1 d (kk H locs ls hW hS hl)
theorem j_land (C : gC G X own cc nL R) {x y : Int64} (d : decode cc pc = .ok (.land, 1)) (kk : J G X ex N k n (pc + 1) lv (.long (x &&& y) :: st) σ) : J G X ex N k n pc lv (.long y :: .long x :: st) σ := fun H locs ls hW hS hl => lv_land C.1 C.2.1 d (kk H locs ls hW hS hl)
theorem j_lor (C : gC G X own cc nL R) {x y : Int64} (d : decode cc pc = .ok (.lor, 1)) (kk : J G X ex N k n (pc + 1) lv (.long (x ||| y) :: st) σ) : J G X ex N k n pc lv (.long y :: .long x :: st) σ := fun H locs ls hW hS hl => lv_lor C.1 C.2.1 d (kk H locs ls hW hS hl)
theorem j_lxor (C : gC G X own cc nL R) {x y : Int64} (d : decode cc pc = .ok (.lxor, 1)) (kk : J G X ex N k n (pc + 1) lv (.long (x ^^^ y) :: st) σ) : J G X ex N k n pc lv (.long y :: .long x :: st) σ := fun H locs ls hW hS hl => lv_lxor C.1 C.2.1 d (kk H locs ls hW hS hl)
theorem j_lushr (C : gC G X own cc nL R) {x : Int64} {y : Int32} (d : decode cc pc = .ok (.lushr, 1)) (kk : J G X ex N k n (pc + 1) lv (.long (x.toUInt64 >>> (y.toInt64.toUInt64 &&& Int64.toUInt64 63)).toInt64 :: st) σ) : J G X ex N k n pc lv (.int y :: .long x :: st) σ := fun H locs ls hW hS hl => lv_lushr C.1 C.2.1 d rfl (kk H locs ls hW hS hl)
theorem j_lshl (C : gC G X own cc nL R) {x : Int64} {y : Int32} (d : decode cc pc = .ok (.lshl, 1)) (kk : J G X ex N k n (pc + 1) lv (.long (x <<< (y.toInt64 &&& 63)) :: st) σ) : J G X ex N k n pc lv (.int y :: .long x :: st) σ := fun H locs ls hW hS hl => lv_lshl C.1 C.2.1 d rfl (kk H locs ls hW hS hl)
theorem j_i2l (C : gC G X own cc nL R) {x : Int32} (d : decode cc pc = .ok (.i2l, 1)) (kk : J G X ex N k n (pc + 1) lv (.long x.toInt64 :: st) σ) : J G X ex N k n pc lv (.int x :: st) σ := fun H locs ls hW hS hl => lv_i2l C.1 C.2.1 d rfl (kk H locs ls hW hS hl)
theorem j_l2i (C : gC G X own cc nL R) {x : Int64} (d : decode cc pc = .ok (.l2i, 1)) (kk : J G X ex N k n (pc + 1) lv (.int x.toInt32 :: st) σ) : J G X ex N k n pc lv (.long x :: st) σ := fun H locs ls hW hS hl => lv_l2i C.1 C.2.1 d rfl (kk H locs ls hW hS hl)
theorem j_i2d (C : gC G X own cc nL R) {x : Int32} (d : decode cc pc = .ok (.i2d, 1)) (kk : J G X ex N k n (pc + 1) lv (.double (FP.i2d x) :: st) σ) : J G X ex N k n pc lv (.int x :: st) σ := fun H locs ls hW hS hl => lv_i2d C.1 C.2.1 d (kk H locs ls hW hS hl)
theorem j_i2f (C : gC G X own cc nL R) {x : Int32} (d : decode cc pc = .ok (.i2f, 1)) (kk : J G X ex N k n (pc + 1) lv (.float (FP.i2f x) :: st) σ) : J G X ex N k n pc lv (.int x :: st) σ := fun H locs ls hW hS hl => lv_i2f C.1 C.2.1 d (kk H locs ls hW hS hl)
theorem j_l2f (C : gC G X own cc nL R) {x : Int64} (d : decode cc pc = .ok (.l2f, 1)) (kk : J G X ex N k n (pc + 1) lv (.float (FP.l2f x) :: st) σ) : J G X ex N k n pc lv (.long x :: st) σ := fun H locs ls hW hS hl => lv_l2f C.1 C.2.1 d (kk H locs ls hW hS hl)
theorem j_fdiv (C : gC G X own cc nL R) {x y : UInt32} (d : decode cc pc = .ok (.fdiv, 1)) (hne : vf_n32 (FP.fdiv x y)) (kk : J G X ex N k n (pc + 1) lv (.float (FP.fdiv x y) :: st) σ) : J G X ex N k n pc lv (.float y :: .float x :: st) σ := fun H locs ls hW hS hl => lv_fdiv C.1 C.2.1 d hne (kk H locs ls hW hS hl)
theorem j_ddiv (C : gC G X own cc nL R) {x y : UInt64} (d : decode cc pc = .ok (.ddiv, 1)) (hne : vf_n64 (FP.ddiv x y)) (kk : J G X ex N k n (pc + 1) lv (.double (FP.ddiv x y) :: st) σ) : J G X ex N k n pc lv (.double y :: .double x :: st) σ := fun H locs ls hW hS hl => lv_ddiv C.1 C.2.1 d hne (kk H locs ls hW hS hl)
theorem j_f2d (C : gC G X own cc nL R) {x : UInt32} (d : decode cc pc = .ok (.f2d, 1)) (hne : vf_n64 (FP.f2d x)) (kk : J G X ex N k n (pc + 1) lv (.double (FP.f2d x) :: st) σ) : J G X ex N k n pc lv (.float x :: st) σ := fun H locs ls hW hS hl => lv_f2d C.1 C.2.1 d hne (kk H locs ls hW hS hl)
theorem j_fcmp (C : gC G X own cc nL R) {x y : UInt32} {op : CmpOp} (d : decode cc pc = .ok (.fcmp op, 1)) (kk : J G X ex N k n (pc + 1) lv (.int (Op.cmpValue (FP.fcmp x y) op) :: st) σ) : J G X ex N k n pc lv (.float y :: .float x :: st) σ := fun H locs ls hW hS hl => lv_fcmp C.1 C.2.1 d (kk H locs ls hW hS hl)
theorem j_dcmp (C : gC G X own cc nL R) {x y : UInt64} {op : CmpOp} (d : decode cc pc = .ok (.dcmp op, 1)) (kk : J G X ex N k n (pc + 1) lv (.int (Op.cmpValue (FP.dcmp x y) op) :: st) σ) : J G X ex N k n pc lv (.double y :: .double x :: st) σ := fun H locs ls hW hS hl => lv_dcmp C.1 C.2.1 d (kk H locs ls hW hS hl)
theorem j_dup (C : gC G X own cc nL R) {v : Value} (d : decode cc pc = .ok (.dup, 1)) (hv : v.category = 1 := by rfl) (kk : J G X ex N k n (pc + 1) lv (v :: v :: st) σ) : J G X ex N k n pc lv (v :: st) σ := fun H locs ls hW hS hl => lv_dup C.1 C.2.1 d hv (kk H locs ls hW hS hl)
theorem j_pop (C : gC G X own cc nL R) {v : Value} (d : decode cc pc = .ok (.pop, 1)) (hv : v.category = 1 := by rfl) (kk : J G X ex N k n (pc + 1) lv st σ) : J G X ex N k n pc lv (v :: st) σ := fun H locs ls hW hS hl => lv_pop C.1 C.2.1 d hv (kk H locs ls hW hS hl)
theorem j_dup2 (C : gC G X own cc nL R) {v w : Value} (d : decode cc pc = .ok (.dup2, 1)) (hv : v.category = 1 := by rfl) (hw : w.category = 1 := by rfl) (kk : J G X ex N k n (pc + 1) lv (v :: w :: v :: w :: st) σ) : J G X ex N k n pc lv (v :: w :: st) σ := fun H locs ls hW hS hl => lv_dup2_11 C.1 C.2.1 d hv hw (kk H locs ls hW hS hl)
theorem j_if_eq (C : gC G X own cc nL R) {x : Int32} {off : Int} (tgt : Nat) (d : decode cc pc = .ok (.ifCond .eq off, 3)) (kt : x = 0 → J G X ex N k n tgt lv st σ) (kf : ¬ (x = 0) → J G X ex N k n (pc + 3) lv st σ) (ht : (pc : Int) + off = (tgt : Int) := by decide) : J G X ex N k n pc lv (.int x :: st) σ := fun H locs ls hW hS hl => lv_if_eq C.1 C.2.1 d ht (fun q => kt q H locs ls hW hS hl) (fun q => kf q H locs ls hW hS hl)
theorem j_icmp_eq (C : gC G X own cc nL R) {x y : Int32} {off : Int} (tgt : Nat) (d : decode cc pc = .ok (.if_icmp .eq off, 3)) (kt : x = y → J G X ex N k n tgt lv st σ) (kf : ¬ (x = y) → J G X ex N k n (pc + 3) lv st σ) (ht : (pc : Int) + off = (tgt : Int) := by decide) : J G X ex N k n pc lv (.int y :: .int x :: st) σ := fun H locs ls hW hS hl => lv_icmp_eq C.1 C.2.1 d ht (fun q => kt q H locs ls hW hS hl) (fun q => kf q H locs ls hW hS hl)
theorem j_if_ne (C : gC G X own cc nL R) {x : Int32} {off : Int} (tgt : Nat) (d : decode cc pc = .ok (.ifCond .ne off, 3)) (kt : ¬ x = 0 → J G X ex N k n tgt lv st σ) (kf : x = 0 → J G X ex N k n (pc + 3) lv st σ) (ht : (pc : Int) + off = (tgt : Int) := by decide) : J G X ex N k n pc lv (.int x :: st) σ := fun H locs ls hW hS hl => lv_if_ne C.1 C.2.1 d ht (fun q => kt q H locs ls hW hS hl) (fun q => kf q H locs ls hW hS hl)
theorem j_icmp_ne (C : gC G X own cc nL R) {x y : Int32} {off : Int} (tgt : Nat) (d : decode cc pc = .ok (.if_icmp .ne off, 3)) (kt : ¬ x = y → J G X ex N k n tgt lv st σ) (kf : x = y → J G X ex N k n (pc + 3) lv st σ) (ht : (pc : Int) + off = (tgt : Int) := by decide) : J G X ex N k n pc lv (.int y :: .int x :: st) σ := fun H locs ls hW hS hl => lv_icmp_ne C.1 C.2.1 d ht (fun q => kt q H locs ls hW hS hl) (fun q => kf q H locs ls hW hS hl)
theorem j_if_lt (C : gC G X own cc nL R) {x : Int32} {off : Int} (tgt : Nat) (d : decode cc pc = .ok (.ifCond .lt off, 3)) (kt : x < 0 → J G X ex N k n tgt lv st σ) (kf : ¬ (x < 0) → J G X ex N k n (pc + 3) lv st σ) (ht : (pc : Int) + off = (tgt : Int) := by decide) : J G X ex N k n pc lv (.int x :: st) σ := fun H locs ls hW hS hl => lv_if_lt C.1 C.2.1 d ht (fun q => kt q H locs ls hW hS hl) (fun q => kf q H locs ls hW hS hl)
theorem j_icmp_lt (C : gC G X own cc nL R) {x y : Int32} {off : Int} (tgt : Nat) (d : decode cc pc = .ok (.if_icmp .lt off, 3)) (kt : x < y → J G X ex N k n tgt lv st σ) (kf : ¬ (x < y) → J G X ex N k n (pc + 3) lv st σ) (ht : (pc : Int) + off = (tgt : Int) := by decide) : J G X ex N k n pc lv (.int y :: .int x :: st) σ := fun H locs ls hW hS hl => lv_icmp_lt C.1 C.2.1 d ht (fun q => kt q H locs ls hW hS hl) (fun q => kf q H locs ls hW hS hl)
theorem j_if_ge (C : gC G X own cc nL R) {x : Int32} {off : Int} (tgt : Nat) (d : decode cc pc = .ok (.ifCond .ge off, 3)) (kt : 0 ≤ x → J G X ex N k n tgt lv st σ) (kf : ¬ (0 ≤ x) → J G X ex N k n (pc + 3) lv st σ) (ht : (pc : Int) + off = (tgt : Int) := by decide) : J G X ex N k n pc lv (.int x :: st) σ := fun H locs ls hW hS hl => lv_if_ge C.1 C.2.1 d ht (fun q => kt q H locs ls hW hS hl) (fun q => kf q H locs ls hW hS hl)
theorem j_icmp_ge (C : gC G X own cc nL R) {x y : Int32} {off : Int} (tgt : Nat) (d : decode cc pc = .ok (.if_icmp .ge off, 3)) (kt : y ≤ x → J G X ex N k n tgt lv st σ) (kf : ¬ (y ≤ x) → J G X ex N k n (pc + 3) lv st σ) (ht : (pc : Int) + off = (tgt : Int) := by decide) : J G X ex N k n pc lv (.int y :: .int x :: st) σ := fun H locs ls hW hS hl => lv_icmp_ge C.1 C.2.1 d ht (fun q => kt q H locs ls hW hS hl) (fun q => kf q H locs ls hW hS hl)
theorem j_if_gt (C : gC G X own cc nL R) {x : Int32} {off : Int} (tgt : Nat) (d : decode cc pc = .ok (.ifCond .gt off, 3)) (kt : 0 < x → J G X ex N k n tgt lv st σ) (kf : ¬ (0 < x) → J G X ex N k n (pc + 3) lv st σ) (ht : (pc : Int) + off = (tgt : Int) := by decide) : J G X ex N k n pc lv (.int x :: st) σ := fun H locs ls hW hS hl => lv_if_gt C.1 C.2.1 d ht (fun q => kt q H locs ls hW hS hl) (fun q => kf q H locs ls hW hS hl)
theorem j_icmp_gt (C : gC G X own cc nL R) {x y : Int32} {off : Int} (tgt : Nat) (d : decode cc pc = .ok (.if_icmp .gt off, 3)) (kt : y < x → J G X ex N k n tgt lv st σ) (kf : ¬ (y < x) → J G X ex N k n (pc + 3) lv st σ) (ht : (pc : Int) + off = (tgt : Int) := by decide) : J G X ex N k n pc lv (.int y :: .int x :: st) σ := fun H locs ls hW hS hl => lv_icmp_gt C.1 C.2.1 d ht (fun q => kt q H locs ls hW hS hl) (fun q => kf q H locs ls hW hS hl)
theorem j_if_le (C : gC G X own cc nL R) {x : Int32} {off : Int} (tgt : Nat) (d : decode cc pc = .ok (.ifCond .le off, 3)) (kt : x ≤ 0 → J G X ex N k n tgt lv st σ) (kf : ¬ (x ≤ 0) → J G X ex N k n (pc + 3) lv st σ) (ht : (pc : Int) + off = (tgt : Int) := by decide) : J G X ex N k n pc lv (.int x :: st) σ := fun H locs ls hW hS hl => lv_if_le C.1 C.2.1 d ht (fun q => kt q H locs ls hW hS hl) (fun q => kf q H locs ls hW hS hl)
theorem j_icmp_le (C : gC G X own cc nL R) {x y : Int32} {off : Int} (tgt : Nat) (d : decode cc pc = .ok (.if_icmp .le off, 3)) (kt : x ≤ y → J G X ex N k n tgt lv st σ) (kf : ¬ (x ≤ y) → J G X ex N k n (pc + 3) lv st σ) (ht : (pc : Int) + off = (tgt : Int) := by decide) : J G X ex N k n pc lv (.int y :: .int x :: st) σ := fun H locs ls hW hS hl => lv_icmp_le C.1 C.2.1 d ht (fun q => kt q H locs ls hW hS hl) (fun q => kf q H locs ls hW hS hl)
theorem j_goto (C : gC G X own cc nL R) {off : Int} (tgt : Nat) (d : decode cc pc = .ok (.goto off, 3)) (kk : J G X ex N k n tgt lv st σ) (ht : (pc : Int) + off = (tgt : Int) := by decide) : J G X ex N k n pc lv st σ := fun H locs ls hW hS hl => lv_goto C.1 C.2.1 d ht (kk H locs ls hW hS hl)
theorem j_ifnonnull (C : gC G X own cc nL R) {x : Nat} {off : Int} (tgt : Nat) (d : decode cc pc = .ok (.ifnonnull off, 3)) (kk : J G X ex N k n tgt lv st σ) (ht : (pc : Int) + off = (tgt : Int) := by decide) : J G X ex N k n pc lv (.ref x :: st) σ := fun H locs ls hW hS hl => lv_ifnonnull C.1 C.2.1 d ht (kk H locs ls hW hS hl)
theorem j_lcmp (C : gC G X own cc nL R) {x y : Int64} (d : decode cc pc = .ok (.lcmp, 1)) (kk : J G X ex N k n (pc + 1) lv (.int (lg_cmp x y) :: st) σ) : J G X ex N k n pc lv (.long y :: .long x :: st) σ := fun H locs ls hW hS hl => W.lcmp C.1 C.2.1 d (kk H locs ls hW hS hl)
theorem j_tableIn (C : gC G X own cc nL R) {dflt lo hi : Int} {offs : Array Int} {len : Nat} {x : Int32} {off : Int} (tgt : Nat) (d : decode cc pc = .ok (.tableswitch dflt lo hi offs, len)) (h1 : ¬ x.toInt < lo) (h2 : ¬ hi < x.toInt) (ho : offs[(x.toInt - lo).toNat]? = some off) (ht : (pc : Int) + off = (tgt : Int)) (kk : J G X ex N k n tgt lv st σ) : J G X ex N k n pc lv (.int x :: st) σ := fun H locs ls hW hS hl => lv_tableIn C.1 C.2.1 d h1 h2 ho ht (kk H locs ls hW hS hl)
theorem j_tableOut (C : gC G X own cc nL R) {dflt lo hi : Int} {offs : Array Int} {len : Nat} {x : Int32} (tgt : Nat) (d : decode cc pc = .ok (.tableswitch dflt lo hi offs, len)) (h : x.toInt < lo ∨ hi < x.toInt) (ht : (pc : Int) + dflt = (tgt : Int)) (kk : J G X ex N k n tgt lv st σ) : J G X ex N k n pc lv (.int x :: st) σ := fun H locs ls hW hS hl => lv_tableOut C.1 C.2.1 d h ht (kk H locs ls hW hS hl)
theorem j_ldc2 (C : gC G X own cc nL R) {idx : Nat} (v : Int64) (hc : Cond.constantLong own idx v ∈ gw) (d : decode cc pc = .ok (.ldc2_w idx, 3)) (kk : J G X ex N k n (pc + 3) lv (.long v :: st) σ) : J G X ex N k n pc lv st σ := fun H locs ls hW hS hl => lv_ldc2 C.1 C.2.1 C.2.2.2.1 (C.2.2.2.2.1 _ hc) d (kk H locs ls hW hS hl)
/-! fields: a kind of object by its number in vwCl, its name, fields, how many -/
def gFd (ci : Nat) (Cn : String) (T : u_T) (F : Nat) (ty : Nat → FieldType) : Prop :=
  vwCl[ci]? = some (Cn, T, F) ∧ (∀ w ∈ u_ws Cn T F, w ∈ gw) ∧ (∀ j, j < F → parseFieldDescriptor (T j).2.2.1 = some (ty j)) ∧ (∀ a, a < F → ∀ b, b < F → a ≠ b → (T a).2.1 ≠ (T b).2.1)
theorem j_get (C : gC G X own cc nL R) {ci F i idx : Nat} {Cn ref : String} {T : u_T} {ty : Nat → FieldType} {fs : List Value} {v : Value} (hF : gFd ci Cn T F ty) (kf : Nat) (hs : σ i = .inr (ci, fs)) (hi : i < N) (hk : kf < F) (hl : Cond.fieldLink own idx ref (T kf).2.1 (T kf).2.2.1 ∈ gw) (hr : (T kf).1 = ref) (hv : fs[kf]? = some v) (d : decode cc pc = .ok (.getfield idx, 3))
    (kk : J G X ex N k n (pc + 3) lv (v :: st) σ) : J G X ex N k n pc lv (.ref (gb G + i) :: st) σ := fun H locs ls hW hS hl2 => by
  have hP : va_P G.2.1 vwCl [(gb G + i, .inr (ci, fs))] H := fun q x hx => by
    have h0 : q < 1 := (List.getElem?_eq_some_iff.mp hx).1
    rw [show q = 0 by omega] at hx
    cases hx
    have := hW.1 i hi
    rw [hs] at this
    exact this
  exact va_get (Ts := gw) C.1 C.2.1 C.2.2.2.2.1 hF.2.1 C.2.2.2.1 C.2.2.2.2.2.2.1.1 hP 0 rfl hF.1 kf hk (C.2.2.2.2.1 _ hl) (fun x hx => by rw [← hr]; exact hx) hv d (kk H locs ls hW hS hl2)
theorem g_at {G : gG} {σ : gE} {H : Heap} {i : Nat} {e : va_E} {ex : Bool} {N : Nat} (hW : gW G ex N σ H) (hi : i < N) (hs : σ i = e) : va_at G.2.1 vwCl (gb G + i, e) H := by
  have := hW.1 i hi
  rw [hs] at this
  exact this
theorem j_put (C : gC G X own cc nL R) {ci F i idx : Nat} {Cn ref : String} {T : u_T} {ty : Nat → FieldType} {fs : List Value} {v : Value} (hF : gFd ci Cn T F ty) (kf : Nat) (hs : σ i = .inr (ci, fs)) (hi : i < N) (hk : kf < F) (hl : Cond.fieldLink own idx ref (T kf).2.1 (T kf).2.2.1 ∈ gw) (hr : (T kf).1 = ref) (hfin : (T kf).2.2.2 = false ∨ ((T kf).2.2.2 = true ∧ (xh X).name = "<init>" ∧ (T kf).1 = own)) (hn : narrow (ty kf) v = v) (hfit : fits (ty kf) v = true) (hlen : kf < fs.length) (d : decode cc pc = .ok (.putfield idx, 3))
    (kk : J G X ex N k n (pc + 3) lv st (va_up σ i (.inr (ci, fs.set kf v)))) : J G X ex N k n pc lv (v :: .ref (gb G + i) :: st) σ := fun H locs ls hW hS hl2 => by
  have hts := C.2.2.2.2.1
  have hK := C.2.2.2.2.2.2.1.1
  have hown := C.2.2.2.1
  have hap := va_apart (own := own) hts hF.2.1 ty hF.2.2.1 hF.2.2.2 hK hF.1
  obtain ⟨r, h1, cell, q1, q2, q3, q4⟩ := g_at hW hi hs
  have hr9 : r = (Cn, T, F) := Option.some.inj (h1.symm.trans hF.1)
  subst hr9
  obtain ⟨hSl, hfc, kC, hkC, hkind⟩ := hK.1 ci _ hF.1
  obtain ⟨cf, kq, fi, f, hif, hsl⟩ := hSl kf hk
  have hsame : (xs X).fieldFound? ref (T kf).2.1 (T kf).2.2.1 = some (cf, kq, fi, f) := by rw [← hr]; exact hif
  have hst := (u_facts hfc hkC (u_lays hts hF.2.1 hk) hif).1
  have hlay := hts _ (hF.2.1 _ (u_in_lay hk))
  unfold u_lay at hlay
  have hA : gA G (gb G + i) := Nat.le_add_right _ _
  have last : ∀ H' : Heap, H'[gb G + i]? = some (cell.setSlot f.slot v) → H'.size = H.size → (∀ q : Nat, q ≠ gb G + i → H'[q]? = H[q]?) →
      W (xp X) G.1 (xe X) (xR X) (xs X) (xm X) (xa X) (xb X) (xh X) (xc X) H' (locs ++ [⟨gb G + i, f.slot⟩]) k n (xQ X) (F0 (xm X) (pc + 3) ls st) := fun H' e1 e2 e3 => by
    rw [hsl] at e1 ⊢
    refine kk H' _ ls (hW.put (e := .inr (ci, fs.set kf v)) ⟨_, hF.1, t_OB.to (V := updV (vp_V fs) kf v) ⟨_, e1, q2, q3, t_set q4 hap hk v⟩ (fun j _ => vp_updV_set hlen v j)⟩ e2 e3) (hS.put e2 e3 hA) hl2
  rcases hfin with hfin | ⟨hfin, hin2, hdecl⟩
  · rw [if_neg (by rw [hfin]; decide)] at hlay
    have h6 := u_store hfc hkC hkind hlay hif (hF.2.2.1 kf hk) hn hfit
    exact W.putK C.1 C.2.1 (f := f) ⟨hown, hts _ hl, ⟨_, _, _, hsame⟩, hst⟩ (by rw [q2]; exact h6) q1 q3 (by rw [hsl]; exact k2_hasslot (q4 kf hk)) rfl rfl d last
  · rw [if_pos hfin] at hlay
    have hcf : (xm X).cls = cf := by
      obtain ⟨_, _, c', _, _, _, -, -, hf', -, -, -, hown2, -⟩ := Cond.laysFinal_spec hlay
      have e1 : c' = cf := by have := hif.symm.trans hf'; simp at this; exact this.1.symm
      rw [hdecl] at hown2
      rw [← e1]; exact Option.some.inj (hown.symm.trans hown2)
    have h6 := u_fits hfc hkC hkind (Or.inr hlay) hif (hF.2.2.1 kf hk) hn hfit
    exact W.putFinK C.1 C.2.1 hown (hts _ hl) hsame hst hcf hin2 (by rw [q2]; exact h6) q1 q3 (by rw [hsl]; exact k2_hasslot (q4 kf hk)) rfl rfl d last
/-! rows of numbers -/
theorem g_P1 {G : gG} {H : Heap} {x : Nat × va_E} (h : va_at G.2.1 vwCl x H) : va_P G.2.1 vwCl [x] H := fun q y hy => by
  have h0 : q < 1 := (List.getElem?_eq_some_iff.mp hy).1
  rw [show q = 0 by omega] at hy
  cases hy
  exact h
theorem j_alen (C : gC G X own cc nL R) {i : Nat} {x : vp_A} {v : Int32} (t : Nat) {cA : ClassId} {ty : FieldType} (ht : (gT G)[t]? = some (cA, ty)) (hs : σ i = .inl (cA, x)) (hi : i < N) (hv : Int32.ofNat x.1 = v) (d : decode cc pc = .ok (.arraylength, 1))
    (kk : J G X ex N k n (pc + 1) lv (.int v :: st) σ) : J G X ex N k n pc lv (.ref (gb G + i) :: st) σ := fun H locs ls hW hS hl =>
  va_alen C.1 C.2.1 C.2.2.2.2.2.2.1.1 (g_P1 (g_at hW hi hs)) 0 t rfl ht hv d (kk H locs ls hW hS hl)
theorem j_iald (C : gC G X own cc nL R) {i m : Nat} {f : Nat → Int32} {j : Int32} (hs : σ i = .inl (G.2.2.1 0, m, .inl f)) (hi : i < N) (hin : vp_in j m) (d : decode cc pc = .ok (.iaload, 1))
    (kk : J G X ex N k n (pc + 1) lv (.int (f j.toNatClampNeg) :: st) σ) : J G X ex N k n pc lv (.int j :: .ref (gb G + i) :: st) σ := fun H locs ls hW hS hl =>
  va_iald C.1 C.2.1 C.2.2.2.2.2.2.1.1 (g_P1 (g_at hW hi hs)) 0 0 rfl rfl hin d (kk H locs ls hW hS hl)
theorem j_lald (C : gC G X own cc nL R) {i m : Nat} {f : Nat → Int64} {j : Int32} (hs : σ i = .inl (G.2.2.1 1, m, .inr (.inl f))) (hi : i < N) (hin : vp_in j m) (d : decode cc pc = .ok (.laload, 1))
    (kk : J G X ex N k n (pc + 1) lv (.long (f j.toNatClampNeg) :: st) σ) : J G X ex N k n pc lv (.int j :: .ref (gb G + i) :: st) σ := fun H locs ls hW hS hl =>
  va_lald C.1 C.2.1 C.2.2.2.2.2.2.1.1 (g_P1 (g_at hW hi hs)) 0 1 rfl rfl hin d (kk H locs ls hW hS hl)
theorem j_zald (C : gC G X own cc nL R) {i m : Nat} {f : Nat → Int32} {j : Int32} (hs : σ i = .inl (G.2.2.1 2, m, .inl f)) (hi : i < N) (hin : vp_in j m) (d : decode cc pc = .ok (.baload, 1))
    (kk : J G X ex N k n (pc + 1) lv (.int (f j.toNatClampNeg) :: st) σ) : J G X ex N k n pc lv (.int j :: .ref (gb G + i) :: st) σ := fun H locs ls hW hS hl =>
  va_zald C.1 C.2.1 C.2.2.2.2.2.2.1.1 (g_P1 (g_at hW hi hs)) 0 2 rfl rfl hin d (kk H locs ls hW hS hl)
theorem j_dald (C : gC G X own cc nL R) {i m : Nat} {f : Nat → UInt64} {j : Int32} (hs : σ i = .inl (G.2.2.1 3, m, .inr (.inr (.inr (.inl f))))) (hi : i < N) (hin : vp_in j m) (d : decode cc pc = .ok (.daload, 1))
    (kk : J G X ex N k n (pc + 1) lv (.double (f j.toNatClampNeg) :: st) σ) : J G X ex N k n pc lv (.int j :: .ref (gb G + i) :: st) σ := fun H locs ls hW hS hl =>
  va_dald C.1 C.2.1 C.2.2.2.2.2.2.1.1 (g_P1 (g_at hW hi hs)) 0 3 rfl rfl hin d (kk H locs ls hW hS hl)
/-- a row of references: of objects (4) or of rows (5) -/
theorem j_aald (C : gC G X own cc nL R) {i m : Nat} {f : Nat → Option Nat} {j : Int32} {y : Nat} (t : Nat) (ht : t = 4 ∨ t = 5) (hs : σ i = .inl (G.2.2.1 t, m, .inr (.inr (.inr (.inr f))))) (hi : i < N) (hin : vp_in j m) (hv : f j.toNatClampNeg = some y) (d : decode cc pc = .ok (.aaload, 1))
    (kk : J G X ex N k n (pc + 1) lv (.ref y :: st) σ) : J G X ex N k n pc lv (.int j :: .ref (gb G + i) :: st) σ := fun H locs ls hW hS hl => by
  have hK := C.2.2.2.2.2.2.1.1
  have hlt : j.toNatClampNeg < m := Nat.not_le.mp fun q => hin (Or.inr q)
  have hat := g_at hW hi hs
  have go : ∀ ty : FieldType, (gT G)[t]? = some (G.2.2.1 t, ty) → ty.isReference = true → W (xp X) G.1 (xe X) (xR X) (xs X) (xm X) (xa X) (xb X) (xh X) (xc X) H locs k n (xQ X) (F0 (xm X) pc ls (.int j :: .ref (gb G + i) :: st)) := fun ty h1 h2 =>
    W.aald (v := .ref y) (ty := ty) C.1 C.2.1 hat ((hK.2 t _ h1).1 m (fun j => va_rf (f j))) h2 (fun q => by cases q) (by show ¬ (j < 0 ∨ (arrV _ _ _).slots.size ≤ _); rw [arrV_size]; exact hin) (by show (arrV _ _ _).slots[_]? = _; rw [arrV_read _ _ hlt, hv]; rfl) rfl rfl d (kk H locs ls hW hS hl)
  rcases ht with rfl | rfl
  · exact go _ rfl rfl
  · exact go _ rfl rfl
theorem j_iast (C : gC G X own cc nL R) {i m : Nat} {f : Nat → Int32} {j x : Int32} (hs : σ i = .inl (G.2.2.1 0, m, .inl f)) (hi : i < N) (hin : vp_in j m) (d : decode cc pc = .ok (.iastore, 1))
    (kk : J G X ex N k n (pc + 1) lv st (va_up σ i (.inl (G.2.2.1 0, m, .inl (upd f j.toNatClampNeg x))))) : J G X ex N k n pc lv (.int x :: .int j :: .ref (gb G + i) :: st) σ := fun H locs ls hW hS hl => by
  have hK := C.2.2.2.2.2.2.1.1
  refine W.iast C.1 C.2.1 (g_at hW hi hs) ((hK.2 0 _ rfl).1 m (fun j => .int (f j))) (fun q => by cases q) (by show ¬ (j < 0 ∨ (arrV _ _ _).slots.size ≤ _); rw [arrV_size]; exact hin) rfl rfl d fun H1 e z oq => ?_
  refine kk H1 _ ls (hW.put ?_ z oq) (hS.put z oq (Nat.le_add_right _ _)) hl
  show H1[gb G + i]? = some (vp_cell _ _)
  rw [e]
  rw [vp_cell_i, vp_cell_i, arrV_store]
  congr 2
  funext q
  by_cases hq : q = j.toNatClampNeg
  · subst hq
    simp [updV, upd]
  · simp [updV, upd, hq]
theorem j_zast (C : gC G X own cc nL R) {i m : Nat} {f : Nat → Int32} {j x : Int32} (hs : σ i = .inl (G.2.2.1 2, m, .inl f)) (hi : i < N) (hin : vp_in j m) (d : decode cc pc = .ok (.bastore, 1))
    (kk : J G X ex N k n (pc + 1) lv st (va_up σ i (.inl (G.2.2.1 2, m, .inl (upd f j.toNatClampNeg (vp_nar .boolean x)))))) : J G X ex N k n pc lv (.int x :: .int j :: .ref (gb G + i) :: st) σ := fun H locs ls hW hS hl => by
  have hK := C.2.2.2.2.2.2.1.1
  refine W.zast C.1 C.2.1 (g_at hW hi hs) ((hK.2 2 _ rfl).1 m (fun j => .int (f j))) (fun q => by cases q) (by show ¬ (j < 0 ∨ (arrV _ _ _).slots.size ≤ _); rw [arrV_size]; exact hin) rfl rfl d fun H1 e z oq => ?_
  refine kk H1 _ ls (hW.put ?_ z oq) (hS.put z oq (Nat.le_add_right _ _)) hl
  show H1[gb G + i]? = some (vp_cell _ _)
  rw [e]
  rw [vp_cell_i, vp_cell_i, arrV_store]
  congr 2
  funext q
  by_cases hq : q = j.toNatClampNeg
  · subst hq
    simp [updV, upd, vp_nar]
    try rfl
  · simp [updV, upd, hq]
theorem j_last (C : gC G X own cc nL R) {i m : Nat} {f : Nat → Int64} {j : Int32} {x : Int64} (hs : σ i = .inl (G.2.2.1 1, m, .inr (.inl f))) (hi : i < N) (hin : vp_in j m) (d : decode cc pc = .ok (.lastore, 1))
    (kk : J G X ex N k n (pc + 1) lv st (va_up σ i (.inl (G.2.2.1 1, m, .inr (.inl (vp_updL f j.toNatClampNeg x)))))) : J G X ex N k n pc lv (.long x :: .int j :: .ref (gb G + i) :: st) σ := fun H locs ls hW hS hl => by
  have hK := C.2.2.2.2.2.2.1.1
  refine W.last C.1 C.2.1 (g_at hW hi hs) ((hK.2 1 _ rfl).1 m (fun j => .long (f j))) (fun q => by cases q) (by show ¬ (j < 0 ∨ (arrV _ _ _).slots.size ≤ _); rw [arrV_size]; exact hin) rfl rfl d fun H1 e z oq => ?_
  refine kk H1 _ ls (hW.put ?_ z oq) (hS.put z oq (Nat.le_add_right _ _)) hl
  show H1[gb G + i]? = some (vp_cell _ _)
  rw [e]
  rw [vp_cell_l, vp_cell_l, arrV_store]
  congr 2
  funext q
  by_cases hq : q = j.toNatClampNeg
  · subst hq
    simp [updV, vp_updL]
  · simp [updV, vp_updL, hq]
theorem j_dast (C : gC G X own cc nL R) {i m : Nat} {f : Nat → UInt64} {j : Int32} {x : UInt64} (hs : σ i = .inl (G.2.2.1 3, m, .inr (.inr (.inr (.inl f))))) (hi : i < N) (hin : vp_in j m) (d : decode cc pc = .ok (.dastore, 1))
    (kk : J G X ex N k n (pc + 1) lv st (va_up σ i (.inl (G.2.2.1 3, m, .inr (.inr (.inr (.inl (vf_upd f j.toNatClampNeg x)))))))) : J G X ex N k n pc lv (.double x :: .int j :: .ref (gb G + i) :: st) σ := fun H locs ls hW hS hl => by
  have hK := C.2.2.2.2.2.2.1.1
  refine W.dast C.1 C.2.1 (g_at hW hi hs) ((hK.2 3 _ rfl).1 m (fun j => .double (f j))) (fun q => by cases q) (by show ¬ (j < 0 ∨ (arrV _ _ _).slots.size ≤ _); rw [arrV_size]; exact hin) rfl rfl d fun H1 e z oq => ?_
  refine kk H1 _ ls (hW.put ?_ z oq) (hS.put z oq (Nat.le_add_right _ _)) hl
  show H1[gb G + i]? = some (vp_cell _ _)
  rw [e]
  rw [vp_cell_d, vp_cell_d, arrV_store]
  congr 2
  funext q
  by_cases hq : q = j.toNatClampNeg
  · subst hq
    simp [updV, vf_upd]
  · simp [updV, vf_upd, hq]
/-- an object of vwCl's kind 5 (Tree) into a row of such -/
theorem j_aast (C : gC G X own cc nL R) {i m v : Nat} {vs : List Value} {f : Nat → Option Nat} {j : Int32} (hs : σ i = .inl (G.2.2.1 4, m, .inr (.inr (.inr (.inr f))))) (hi : i < N) (hv : σ v = .inr (5, vs)) (hvN : v < N) (hin : vp_in j m) (d : decode cc pc = .ok (.aastore, 1))
    (kk : J G X ex N k n (pc + 1) lv st (va_up σ i (.inl (G.2.2.1 4, m, .inr (.inr (.inr (.inr (va_up f j.toNatClampNeg (some (gb G + v))))))))) ) : J G X ex N k n pc lv (.ref (gb G + v) :: .int j :: .ref (gb G + i) :: st) σ := fun H locs ls hW hS hl => by
  have hK := C.2.2.2.2.2.2.1.1
  have hlt : j.toNatClampNeg < m := Nat.not_le.mp fun q => hin (Or.inr q)
  have h0 : ¬ j < 0 := fun q => hin (Or.inl q)
  obtain ⟨r', hr', cellV, g1, g2, g3, -⟩ := g_at hW hvN hv
  have hc : vwCl[5]? = some (RX4, TX4, 1) := rfl
  have hcls := (hK.1 5 _ hc).2
  obtain ⟨kA, comp, k1, k2, k3, -⟩ := (hK.2 4 _ rfl).2
  have hcomp : comp = G.2.1.1 5 := Option.some.inj (k3.symm.trans hcls.1)
  subst hcomp
  obtain ⟨kC, hkC, -⟩ := hcls.2
  refine W.aast C.1 C.2.1 (g_at hW hi hs) (fun q h => by cases h) (fun h => by cases h) k1 k2 rfl hkC ⟨h0, by show _ < (arrV _ _ _).slots.size; rw [arrV_size]; exact hlt⟩ g1 (fun q h => by rw [g3] at h; cases h) (by rw [g2]; exact hkC) (by rw [g2]; exact va_assign hcls) rfl rfl d fun H1 e z oq => ?_
  refine kk H1 _ ls (hW.put ?_ z oq) (hS.put z oq (Nat.le_add_right _ _)) hl
  show H1[gb G + i]? = some (vp_cell _ _)
  rw [e]
  rw [vp_cell_q, vp_cell_q, arrV_store]
  congr 2
  funext q
  by_cases hq : q = j.toNatClampNeg
  · subst hq
    simp [updV, va_up, va_rf]
  · simp [updV, va_up, hq]
/-! new cells, at the end of the world -/
theorem g_S1 {G : gG} {H0 H H1 : Heap} {locs : List Loc} (hS : va_S (gA G) H0 H locs) (z : H1.size = H.size + 1) (oq : ∀ q : Nat, q < H.size → H1[q]? = H[q]?) : va_S (gA G) H0 H1 locs :=
  ⟨Nat.le_trans hS.1 (by omega), fun x h1 h2 => (oq x (Nat.lt_of_lt_of_le h1 hS.1)).trans (hS.2.1 x h1 h2), hS.2.2⟩
theorem j_new (C : gC G X own cc nL R) {ci F idx : Nat} {Cn : String} {T : u_T} {ty : Nat → FieldType} {fs : List Value} (hF : gFd ci Cn T F ty) (hcl : Cond.classLink own idx Cn ∈ gw) (hinst : Cond.instantiable Cn F ∈ gw) (hini : Cond.initialized Cn ∈ gw) (hfs : ∀ j, j < F → defaultValue (ty j) = vp_V fs j) (hcells : k + 1 ≤ R.cells) (hslots : n + F ≤ R.slots) (d : decode cc pc = .ok (.new idx, 3))
    (kk : J G X true (N + 1) (k + 1) (n + F) (pc + 3) lv (.ref (gb G + N) :: st) (va_up σ N (.inr (ci, fs)))) : J G X true N k n pc lv st σ := fun H locs ls hW hS hl => by
  have hts := C.2.2.2.2.1
  have hKn := C.2.2.2.2.2.2.1.1.1 ci _ hF.1
  have hs := hW.2.2 rfl
  have hR : xR X = R := C.2.2.2.2.2.2.2.2
  refine W.newcK C.1 C.2.1 C.2.2.2.1 (hts _ hcl) (hts _ hinst) (hts _ hini) rfl d (by rw [hR]; exact hcells) (by rw [hR]; exact hslots) hKn.2.1 rfl fun H1 kC hkC e1 z1 o1 => ?_
  have hat : va_at G.2.1 vwCl (gb G + N, .inr (ci, fs)) H1 := ⟨_, hF.1, (u_born ty hts hF.2.1 hKn hkC (by rw [hs] at e1; exact e1) hF.2.2.1).to hfs⟩
  have := kk H1 locs ls (hW.new hat z1 o1) (g_S1 hS z1 o1) hl
  rw [← hs] at this
  exact this
theorem g_newa (G : gG) {N : Nat} {σ : gE} {H : Heap} {m : Nat} {cA : ClassId} {x : vp_A} {v : Value} (hW : gW G true N σ H) (hx : vp_cell cA x = arrV cA m (fun _ => v)) :
    gW G true (N + 1) (va_up σ N (.inl (cA, x))) (H.push ({ cls := cA, slots := Array.replicate m v, vm := .none } : Cell)) ∧ (H.push ({ cls := cA, slots := Array.replicate m v, vm := .none } : Cell)).size = H.size + 1 ∧ ∀ q : Nat, q < H.size → (H.push ({ cls := cA, slots := Array.replicate m v, vm := .none } : Cell))[q]? = H[q]? := by
  have hs := hW.2.2 rfl
  generalize hH1 : H.push ({ cls := cA, slots := Array.replicate m v, vm := .none } : Cell) = H1
  have z1 : H1.size = H.size + 1 := by rw [← hH1, Array.size_push]
  have e1 : H1[H.size]? = some (arrV cA m (fun _ => v)) := by rw [← hH1, Array.getElem?_push_size, ← arrV_new]
  have o1 : ∀ q : Nat, q < H.size → H1[q]? = H[q]? := fun q hq => by rw [← hH1, Array.getElem?_push, if_neg (Nat.ne_of_lt hq)]
  refine ⟨hW.new ?_ z1 o1, z1, o1⟩
  show H1[gb G + N]? = some (vp_cell cA x)
  rw [← hs, e1, hx]
theorem j_newa (C : gC G X own cc nL R) {atype : ArrayType} {m : Int32} {M : Nat} {x : vp_A} (t : Nat) (ht : (gT G)[t]? = some (G.2.2.1 t, newarray.typeOf atype)) (hobj : ∀ s, newarray.typeOf atype ≠ .object s) (harr : Cond.arrayClass (newarray.typeOf atype) ∈ gw) (hx : ∀ cA : ClassId, vp_cell cA x = arrV cA M (fun _ => defaultValue (newarray.typeOf atype))) (hm : ¬ m < 0) (hM : m.toNatClampNeg = M) (hbytes : M * componentBytes (newarray.typeOf atype) ≤ 536870912) (hcells : k + 1 ≤ R.cells) (hslots : n + M ≤ R.slots) (d : decode cc pc = .ok (.newarray atype, 2))
    (kk : J G X true (N + 1) (k + 1) (n + M) (pc + 2) lv (.ref (gb G + N) :: st) (va_up σ N (.inl (G.2.2.1 t, x)))) : J G X true N k n pc lv (.int m :: st) σ := fun H locs ls hW hS hl => by
  have hs := hW.2.2 rfl
  have hR : xR X = R := C.2.2.2.2.2.2.2.2
  subst hM
  refine W.newa C.1 C.2.1 (C.2.2.2.2.1 _ harr) rfl d rfl hm hbytes (by rw [hR]; exact hcells) (by rw [hR]; exact hslots) fun cA kA comp f1 f2 f3 => ?_
  have hcA : cA = G.2.2.1 t := by
    have h2 := (C.2.2.2.2.2.2.1.1.2 t _ ht).2
    have h3 : (xs X).vm.findClass ("[" ++ (newarray.typeOf atype).toString) = some (G.2.2.1 t) := by
      generalize newarray.typeOf atype = ty at h2 hobj
      cases ty with
      | object s => exact absurd rfl (hobj s)
      | _ => exact h2
    exact Option.some.inj (f1.symm.trans h3)
  subst hcA
  obtain ⟨w1, w2, w3⟩ := g_newa G hW (hx (G.2.2.1 t))
  have := kk _ locs ls w1 (g_S1 hS w2 w3) hl
  rw [← hs] at this
  exact this
theorem j_anew (C : gC G X own cc nL R) {idx : Nat} {m : Int32} {M : Nat} (hover : va_AO RX4 (xs X)) (hcl : Cond.classLink own idx RX4 ∈ gw) (hm : ¬ m < 0) (hM : m.toNatClampNeg = M) (hbytes : M * 4 ≤ 536870912) (hcells : k + 1 ≤ R.cells) (hslots : n + M ≤ R.slots) (d : decode cc pc = .ok (.anewarray idx, 3))
    (kk : J G X true (N + 1) (k + 1) (n + M) (pc + 3) lv (.ref (gb G + N) :: st) (va_up σ N (.inl (G.2.2.1 4, M, .inr (.inr (.inr (.inr (fun _ => none)))))))) : J G X true N k n pc lv (.int m :: st) σ := fun H locs ls hW hS hl => by
  have hs := hW.2.2 rfl
  have hR : xR X = R := C.2.2.2.2.2.2.2.2
  subst hM
  refine W.anew C.1 C.2.1 C.2.2.2.1 (C.2.2.2.2.1 _ hcl) (va_AO.use hover) rfl d rfl hm hbytes (by rw [hR]; exact hcells) (by rw [hR]; exact hslots) fun cA kA comp f1 f2 f3 f4 => ?_
  have hcA : cA = G.2.2.1 4 := by
    obtain ⟨_, _, _, _, _, h4⟩ := (C.2.2.2.2.2.2.1.1.2 4 _ rfl).2
    exact Option.some.inj (f1.symm.trans h4)
  subst hcA
  obtain ⟨w1, w2, w3⟩ := g_newa G (cA := G.2.2.1 4) (x := (m.toNatClampNeg, .inr (.inr (.inr (.inr (fun _ => none)))))) hW (vp_cell_q _ _ _)
  have := kk _ locs ls w1 (g_S1 hS w2 w3) hl
  rw [← hs] at this
  exact this
theorem j_objInit (C : gC G X own cc nL R) {idx a : Nat} (hl : Cond.methodLink own idx Lib.objectInit ∈ gw) (hin : Cond.instanceMethod Lib.objectInit ∈ gw) (hc : Cond.code Lib.objectInit ⟨#[0xb1]⟩ 1 none ∈ gw) (hfr : 1 ≤ R.frames) (hlo : 20 ≤ R.locals) (hst : (st.map fun v => v.category).sum ≤ 8) (d : decode cc pc = .ok (.invokespecial idx, 3))
    (kk : J G X ex N k n (pc + 3) lv st σ) : J G X ex N k n pc lv (.ref a :: st) σ := fun H locs ls hW hS hl2 => by
  have hts := C.2.2.2.2.1
  have hR : xR X = R := C.2.2.2.2.2.2.2.2
  refine W.objInit C.1 C.2.1 C.2.2.2.1 (hts _ hl) (hts _ hin) (hts _ hc) rfl hl2.1 rfl d (by rw [hR]; exact hfr) ?_ (kk H locs ls hW hS hl2)
  have : 2 * (F0 (xm X) pc ls (.ref a :: st)).monitorRoom + (st.map fun v => v.category).sum ≤ 8 := lv_room hst
  rw [hR]
  omega
/-! calls -/
theorem g_mono {l : Launch} {y : MethodName} {S : Spec} {P : Array Value → State → Prop} {K : Program → Env → List Frame → State → Array Value → Prop} {Q Q' : Array Value → State → Outcome → State → Prop} (h : MetFree l y S P K Q) (hq : ∀ a st o t, Q a st o t → Q' a st o t) : MetFree l y S P K Q' := by
  intro p e h1 h2 h3 s m args below h4 h5 h6 h7
  obtain ⟨n, o, a1, a2, a3, a4⟩ := h p e h1 h2 h3 s m args below h4 h5 h6 h7
  exact ⟨n, o, a1, a2, a3, hq _ _ _ _ a4⟩
/-- a method that never throws, as the kit has it -/
theorem Sp.met {G : gG} {μ : gM} {rm : Room} {ex : Bool} {N : Nat} {av : List Value} {σ : gE} {Φ : gF} (h : Sp G μ rm ex N av σ Φ) (hx : ∀ E N σ, ¬ Φ (.inr E) N σ) : Met G.1 μ.1 (gWs μ) rm (gPc G ex N av σ) (gQ G ex Φ) rm.cells rm.slots (gA G) := by
  refine g_mono h (fun a st o t hq => ?_)
  rcases hq with hq | ⟨q, -, E, ce, L, ⟨⟨N', σ', hΦ, -⟩, -⟩, -⟩
  · exact hq
  · exact absurd hΦ (hx _ _ _)
theorem j_vx {Φ : gF} {mc ms : Nat} {a0 : Array Value} {stk : List Value}
    (hr : ∀ (H : Heap) (locs : List Loc) (ls : Array Slot), gW G ex N σ H → va_S (gA G) (xs X).heap H locs → gH ls (xc X).maxLocals lv → vx_Run (xp X) G.1 (xe X) (xR X) (xs X) (xm X) (xa X) (xb X) (xh X) (xc X) H locs k n mc ms (F0 (xm X) pc ls stk) st (gQ G ex Φ a0) (gXC G Φ) (gA G))
    (kk : ∀ (v : Option Value) (N' : Nat) (σ' : gE), Φ (.inl v) N' σ' → J G X ex N' (k + mc) (n + ms) (pc + 3) lv (v.toList ++ st) σ')
    (kx : ∀ (E : String) (N' : Nat) (σ' : gE), Φ (.inr E) N' σ' → JX G X N' (k + mc) (n + ms) pc lv st σ' E) : J G X ex N k n pc lv stk σ := by
  intro H locs ls hW hS hl T hT Xs
  rcases hr H locs ls hW hS hl T hT Xs with ⟨v, st₀, t, T', L, h0, X', hL, e1, e2, ⟨⟨v', N', σ', hv, hΦ, hW'⟩, hF⟩, go⟩ | ⟨q, st₀, t, T', L, E, ce, h0, X', hL, e1, e2, ⟨⟨N', σ', hΦ, hW'⟩, hF⟩, hce, hcv, hcl, go⟩
  · cases hv
    have hS' := (vx_keep h0 e1 hS (fun q _ h => h) (fun q h => h) hL hF).2.2
    obtain ⟨t2, a1, b1⟩ := kk v N' σ' hΦ T'.heap (locs ++ L) ls (by rw [e1]; exact hW') hS' hl T' rfl X'
    exact ⟨t2, go t2 a1, b1⟩
  · have hS' := (vx_keep h0 e1 hS (fun q _ h => h) (fun q h => h) hL hF).2.2
    obtain ⟨t2, a1, b1⟩ := kx E N' σ' hΦ T'.heap (locs ++ L) ls q ce (by rw [e1]; exact hW') hS' hl (by rw [e1]; exact hce) hcv hcl T' rfl X'
    exact ⟨t2, go.trans a1, b1⟩
theorem g_pre {μ : gM} {N : Nat} {av : List Value} {σ : gE} {ex : Bool} {H : Heap} {locs : List Loc} (C : gC G X own cc nL R) (hW : gW G ex N σ H) (hS : va_S (gA G) (xs X).heap H locs) : FrameBlind (gPc G ex N av σ) ∧ ∀ U : State, U.heap = H → (xs X).WarmedH U.vm → gPc G ex N av σ av.toArray U :=
  ⟨gPc_blind, fun U hU hw => ⟨rfl, C.2.2.2.2.2.2.1.warm hw, by rw [hU]; exact gZ.moved hw.alike hS C.2.2.2.2.2.2.2.1, by rw [hU]; exact hW⟩⟩
/-- what the tables say of a method that is called -/
def gKn (μ : gM) (na : Nat) : Prop := gCd μ ∈ gw ∧ Cond.initialized μ.1.cls ∈ gw ∧ (μ.1.cls ≠ "java/lang/invoke/MethodHandle" ∧ μ.1.cls ≠ "java/lang/invoke/VarHandle") ∧ (parseMethodDescriptor μ.1.desc).map (fun d => d.parameters.length) = some na
theorem g_goodin {own : String} {L : List Cond} (h : ∀ w ∈ L, w ∈ gw) : GoodIn gw (L ++ gw) := fun w hw => by
  have : w ∈ gw := by
    rcases List.mem_append.mp hw with h1 | h1
    · exact h w h1
    · exact h1
  exact ⟨this, gw_good this⟩
theorem j_callV (C : gC G X own cc nL R) {μ : gM} {rm : Room} {Φ : gF} {As : List Value} {i ci F na idx : Nat} {T : u_T} {fs : List Value} {stk : List Value} (hM : Sp G μ rm ex N (.ref (gb G + i) :: As) σ Φ) (hc : gCd μ = .code μ.1 μ.2.1 μ.2.2.1 μ.2.2.2.1) (hK : gKn μ na) (hin : Cond.instanceMethod μ.1 ∈ gw) (hse : Cond.selects μ.1.cls μ.1 μ.1 ∈ gw) (hlk : Cond.methodLink own idx μ.1 ∈ gw)
    (hs : σ i = .inr (ci, fs)) (hi : i < N) (hci : vwCl[ci]? = some (μ.1.cls, T, F)) (hn : As.length = na) (hstk : stk = As.reverse ++ .ref (gb G + i) :: st) (hcat : (st.map fun v => v.category).sum ≤ 8) (hR : (rm.frames + 1 ≤ R.frames ∧ 8 + (μ.2.2.1 + 11) + rm.locals ≤ R.locals) ∧ k + rm.cells ≤ R.cells ∧ n + rm.slots ≤ R.slots) (d : decode cc pc = .ok (.invokevirtual idx, 3))
    (kk : ∀ (v : Option Value) (N' : Nat) (σ' : gE), Φ (.inl v) N' σ' → J G X ex N' (k + rm.cells) (n + rm.slots) (pc + 3) lv (v.toList ++ st) σ')
    (kx : ∀ (E : String) (N' : Nat) (σ' : gE), Φ (.inr E) N' σ' → JX G X N' (k + rm.cells) (n + rm.slots) pc lv st σ' E) : J G X ex N k n pc lv stk σ := by
  refine j_vx (Φ := Φ) (mc := rm.cells) (ms := rm.slots) (a0 := (Value.ref (gb G + i) :: As).toArray) (fun H locs ls hW hS hl => ?_) kk kx
  have hXR : xR X = R := C.2.2.2.2.2.2.2.2
  have hp := g_pre (μ := μ) (av := .ref (gb G + i) :: As) C hW hS
  have hG : GoodIn gw (wsV own idx μ.1.cls μ.1 (gWs μ)) := by
    have := g_goodin (own := own) (L := [.methodLink own idx μ.1, .instanceMethod μ.1, .selects μ.1.cls μ.1 μ.1, .initialized μ.1.cls, gCd μ]) (fun w hw => by
      simp only [List.mem_cons, List.not_mem_nil, or_false] at hw
      rcases hw with rfl | rfl | rfl | rfl | rfl
      · exact hlk
      · exact hin
      · exact hse
      · exact hK.2.1
      · exact hK.1)
    exact this
  exact vx_runV (Ts := gw) (C := μ.1.cls) (bytes := μ.2.1) (maxL := μ.2.2.1) (ret := μ.2.2.2.1) (n := na) ⟨C.1, C.2.1, C.2.2.1, C.2.2.2.1, C.2.2.2.2.1⟩ hM
    (cwV na C.2.2.2.2.1 hG (ws' := gw) (by rw [← hc]) rfl rfl ⟨rfl, hK.2.2.1.1, hK.2.2.1.2, hK.2.2.2⟩ (by rw [hXR]; exact hR.1))
    ⟨hp.1, va_recv (q := (μ.1.cls, T, F)) C.2.2.2.2.2.2.1.1 (g_P1 (g_at hW hi hs)) hci (q0 := 0) rfl, hp.2⟩ rfl hn (by rw [← C.2.2.1]; exact hl.1) hstk (lv_room hcat) d (by rw [hXR]; exact hR.2)
theorem j_callS (C : gC G X own cc nL R) {μ : gM} {rm : Room} {Φ : gF} {As : List Value} {na idx : Nat} {stk : List Value} (hM : Sp G μ rm ex N As σ Φ) (hc : gCd μ = .code μ.1 μ.2.1 μ.2.2.1 μ.2.2.2.1) (hK : gKn μ na) (hstat : Cond.static μ.1 ∈ gw) (hlk : Cond.methodLink own idx μ.1 ∈ gw)
    (hn : As.length = na) (hstk : stk = As.reverse ++ st) (hcat : (st.map fun v => v.category).sum ≤ 8) (hR : (rm.frames + 1 ≤ R.frames ∧ 8 + (μ.2.2.1 + 11) + rm.locals ≤ R.locals) ∧ k + rm.cells ≤ R.cells ∧ n + rm.slots ≤ R.slots) (d : decode cc pc = .ok (.invokestatic idx, 3))
    (kk : ∀ (v : Option Value) (N' : Nat) (σ' : gE), Φ (.inl v) N' σ' → J G X ex N' (k + rm.cells) (n + rm.slots) (pc + 3) lv (v.toList ++ st) σ')
    (kx : ∀ (E : String) (N' : Nat) (σ' : gE), Φ (.inr E) N' σ' → JX G X N' (k + rm.cells) (n + rm.slots) pc lv st σ' E) : J G X ex N k n pc lv stk σ := by
  refine j_vx (Φ := Φ) (mc := rm.cells) (ms := rm.slots) (a0 := As.toArray) (fun H locs ls hW hS hl => ?_) kk kx
  have hXR : xR X = R := C.2.2.2.2.2.2.2.2
  have hp := g_pre (μ := μ) (av := As) C hW hS
  have hG : GoodIn gw (va_wsS own idx μ.1 (gWs μ)) := by
    have := g_goodin (own := own) (L := [.methodLink own idx μ.1, .static μ.1, .initialized μ.1.cls, gCd μ]) (fun w hw => by
      simp only [List.mem_cons, List.not_mem_nil, or_false] at hw
      rcases hw with rfl | rfl | rfl | rfl
      · exact hlk
      · exact hstat
      · exact hK.2.1
      · exact hK.1)
    exact this
  exact vx_runS (Ts := gw) (own := own) (bytes := μ.2.1) (maxL := μ.2.2.1) (ret := μ.2.2.2.1) (n := na) ⟨C.1, C.2.1, C.2.2.1, C.2.2.2.1, C.2.2.2.2.1⟩ hM
    (va_cwS na C.2.2.2.2.1 hG (ws' := gw) (by rw [← hc]) rfl rfl ⟨hK.2.2.1.1, hK.2.2.1.2, hK.2.2.2⟩ (by rw [hXR]; exact hR.1))
    hp rfl hn (by rw [← C.2.2.1]; exact hl.1) hstk (lv_room hcat) d (by rw [hXR]; exact hR.2)
/-- a call of a method with handlers -/
theorem j_callH (C : gC G X own cc nL R) {μ : gM} {rm : Room} {Φ : gF} {As : List Value} {na idx : Nat} {stk : List Value} (hM : Sp G μ rm ex N As σ Φ) (hc : gCd μ = .codeWith μ.1 μ.2.1 μ.2.2.1 μ.2.2.2.1 μ.2.2.2.2) (hK : gKn μ na) (hstat : Cond.static μ.1 ∈ gw) (hlk : Cond.methodLink own idx μ.1 ∈ gw)
    (hn : As.length = na) (hstk : stk = As.reverse ++ st) (hcat : (st.map fun v => v.category).sum ≤ 8) (hR : (rm.frames + 1 ≤ R.frames ∧ 8 + (μ.2.2.1 + 11) + rm.locals ≤ R.locals) ∧ k + rm.cells ≤ R.cells ∧ n + rm.slots ≤ R.slots) (d : decode cc pc = .ok (.invokestatic idx, 3))
    (kk : ∀ (v : Option Value) (N' : Nat) (σ' : gE), Φ (.inl v) N' σ' → J G X ex N' (k + rm.cells) (n + rm.slots) (pc + 3) lv (v.toList ++ st) σ')
    (kx : ∀ (E : String) (N' : Nat) (σ' : gE), Φ (.inr E) N' σ' → JX G X N' (k + rm.cells) (n + rm.slots) pc lv st σ' E) : J G X ex N k n pc lv stk σ := by
  refine j_vx (Φ := Φ) (mc := rm.cells) (ms := rm.slots) (a0 := As.toArray) (fun H locs ls hW hS hl => ?_) kk kx
  have hXR : xR X = R := C.2.2.2.2.2.2.2.2
  have hp := g_pre (μ := μ) (av := As) C hW hS
  have hG : GoodIn gw (va_wsS own idx μ.1 (gWs μ)) := by
    have := g_goodin (own := own) (L := [.methodLink own idx μ.1, .static μ.1, .initialized μ.1.cls, gCd μ]) (fun w hw => by
      simp only [List.mem_cons, List.not_mem_nil, or_false] at hw
      rcases hw with rfl | rfl | rfl | rfl
      · exact hlk
      · exact hstat
      · exact hK.2.1
      · exact hK.1)
    exact this
  exact vx_runSX (Ts := gw) (own := own) (bytes := μ.2.1) (maxL := μ.2.2.1) (ret := μ.2.2.2.1) (hh := μ.2.2.2.2) (n := na) ⟨C.1, C.2.1, C.2.2.1, C.2.2.2.1, C.2.2.2.2.1⟩ hM
    (vx_cwSW na C.2.2.2.2.1 hG (ws' := gw) (by rw [← hc]) rfl rfl ⟨hK.2.2.1.1, hK.2.2.1.2, hK.2.2.2⟩ (by rw [hXR]; exact hR.1))
    hp rfl hn (by rw [← C.2.2.1]; exact hl.1) hstk (lv_room hcat) d (by rw [hXR]; exact hR.2)
theorem j_callI (C : gC G X own cc nL R) {μ : gM} {rm : Room} {Φ : gF} {As : List Value} {a na idx : Nat} {stk : List Value} (hM : Sp G μ rm ex N (.ref a :: As) σ Φ) (hx : ∀ E N σ, ¬ Φ (.inr E) N σ) (hc : gCd μ = .code μ.1 μ.2.1 μ.2.2.1 none) (hy : μ.1.name = "<init>") (hK : gKn μ na) (hin : Cond.instanceMethod μ.1 ∈ gw) (hlk : Cond.methodLink own idx μ.1 ∈ gw)
    (hn : As.length = na) (hstk : stk = As.reverse ++ .ref a :: st) (hcat : (st.map fun v => v.category).sum ≤ 8) (hR : (rm.frames + 1 ≤ R.frames ∧ 8 + (μ.2.2.1 + 11) + rm.locals ≤ R.locals) ∧ k + rm.cells ≤ R.cells ∧ n + rm.slots ≤ R.slots) (d : decode cc pc = .ok (.invokespecial idx, 3))
    (kk : ∀ (v : Option Value) (N' : Nat) (σ' : gE), Φ (.inl v) N' σ' → J G X ex N' (k + rm.cells) (n + rm.slots) (pc + 3) lv (v.toList ++ st) σ') : J G X ex N k n pc lv stk σ := by
  intro H locs ls hW hS hl T hT Xs
  have hXR : xR X = R := C.2.2.2.2.2.2.2.2
  have hp := g_pre (μ := μ) (av := .ref a :: As) C hW hS
  have hts := C.2.2.2.2.1
  have hG : GoodIn gw (gWs μ) := by
    have := g_goodin (own := own) (L := [gCd μ]) (fun w hw => by
      simp only [List.mem_cons, List.not_mem_nil, or_false] at hw
      rcases hw with rfl
      exact hK.1)
    exact this
  obtain ⟨v, st₀, t, T', L, h0, X', hL, e1, e2, ⟨⟨v', N', σ', hv, hΦ, hW'⟩, hF⟩, go⟩ := va_runI (Ts := gw) (own := own) (bytes := μ.2.1) (maxL := μ.2.2.1) (n := na) (As := As) (rest := st) (g := F0 (xm X) pc ls stk) ⟨C.1, C.2.1, C.2.2.1, C.2.2.2.1, hts⟩ (hM.met hx)
    (cwI na hts hG (ws' := gw) (by rw [← hc]) rfl rfl (hts _ hK.2.1) (hts _ hlk) (hts _ hin) hy ⟨hK.2.2.1.1, hK.2.2.1.2, hK.2.2.2⟩ (by rw [hXR]; exact hR.1))
    hp rfl hn (by rw [← C.2.2.1]; exact hl.1) hstk (lv_room hcat) d (by rw [hXR]; exact hR.2) T hT Xs
  cases hv
  have hS' := (vx_keep h0 e1 hS (fun q _ h => h) (fun q h => h) hL hF).2.2
  obtain ⟨t2, a1, b1⟩ := kk v N' σ' hΦ T'.heap (locs ++ L) ls (by rw [e1]; exact hW') hS' hl T' rfl X'
  exact ⟨t2, go t2 a1, b1⟩
/-! ends -/
theorem g_end {μ : gM} {rm : Room} {Φ : gF} (CM : gCM G X μ rm ex Φ) (hk : k ≤ rm.cells) (hn : n ≤ rm.slots)
    (kk : ∀ (H : Heap) (locs : List Loc) (ls : Array Slot), gW G ex N σ H → va_S (gA G) (xs X).heap H locs → gH ls (xc X).maxLocals lv → W (xp X) G.1 (xe X) (xR X) (xs X) (xm X) (xa X) (xb X) (xh X) (xc X) H locs rm.cells rm.slots (MQ (xb X) (gQ G ex Φ) (xa X) (xs X) rm.cells rm.slots (gA G)) (F0 (xm X) pc ls st)) : J G X ex N k n pc lv st σ := by
  intro H locs ls hW hS hl
  rw [CM.1]
  exact W.widen hk hn (vx_ret (kk H locs ls hW hS hl))
theorem g_post {Φ : gF} {v : Option Value} {H : Heap} {locs : List Loc} (hW : gW G ex N σ H) (hS : va_S (gA G) (xs X).heap H locs) (hΦ : Φ (.inl v) N σ) (t : State) (ht : t.heap = H) (a : Array Value) : gQ G ex Φ a (xs X) (.returned v) t :=
  ⟨⟨v, N, σ, rfl, hΦ, by rw [ht]; exact hW⟩, hS.F ht⟩
theorem j_iret (C : gC G X own cc nL R) {μ : gM} {rm : Room} {Φ : gF} (CM : gCM G X μ rm ex Φ) {v : Int32} (hret : μ.2.2.2.1 = some .int) (hk : k ≤ rm.cells) (hn : n ≤ rm.slots) (d : decode cc pc = .ok (.ireturn, 1)) (hΦ : Φ (.inl (some (.int v))) N σ) : J G X ex N k n pc lv [.int v] σ :=
  g_end CM hk hn fun H locs ls hW hS hl => W.iret C.1 C.2.1 (CM.2.1.trans hret) (fun t ht _ => g_post hW hS hΦ t ht _) hS.2.2 d C.2.2.2.2.2.1
theorem j_zret (C : gC G X own cc nL R) {μ : gM} {rm : Room} {Φ : gF} (CM : gCM G X μ rm ex Φ) {v : Int32} (hret : μ.2.2.2.1 = some .boolean) (hv : narrow .boolean (.int v) = .int v) (hk : k ≤ rm.cells) (hn : n ≤ rm.slots) (d : decode cc pc = .ok (.ireturn, 1)) (hΦ : Φ (.inl (some (.int v))) N σ) : J G X ex N k n pc lv [.int v] σ :=
  g_end CM hk hn fun H locs ls hW hS hl => W.zret C.1 C.2.1 (CM.2.1.trans hret) hv (fun t ht _ => g_post hW hS hΦ t ht _) hS.2.2 d C.2.2.2.2.2.1
theorem j_lret (C : gC G X own cc nL R) {μ : gM} {rm : Room} {Φ : gF} (CM : gCM G X μ rm ex Φ) {v : Int64} (hret : μ.2.2.2.1 = some .long) (hk : k ≤ rm.cells) (hn : n ≤ rm.slots) (d : decode cc pc = .ok (.lreturn, 1)) (hΦ : Φ (.inl (some (.long v))) N σ) : J G X ex N k n pc lv [.long v] σ :=
  g_end CM hk hn fun H locs ls hW hS hl => W.lret C.1 C.2.1 (CM.2.1.trans hret) (fun t ht _ => g_post hW hS hΦ t ht _) hS.2.2 d C.2.2.2.2.2.1
theorem j_fret (C : gC G X own cc nL R) {μ : gM} {rm : Room} {Φ : gF} (CM : gCM G X μ rm ex Φ) {v : UInt32} (hret : μ.2.2.2.1 = some .float) (hk : k ≤ rm.cells) (hn : n ≤ rm.slots) (d : decode cc pc = .ok (.freturn, 1)) (hΦ : Φ (.inl (some (.float v))) N σ) : J G X ex N k n pc lv [.float v] σ :=
  g_end CM hk hn fun H locs ls hW hS hl => W.fret C.1 C.2.1 (CM.2.1.trans hret) (fun t ht _ => g_post hW hS hΦ t ht _) hS.2.2 d C.2.2.2.2.2.1
theorem j_dret (C : gC G X own cc nL R) {μ : gM} {rm : Room} {Φ : gF} (CM : gCM G X μ rm ex Φ) {v : UInt64} (hret : μ.2.2.2.1 = some .double) (hk : k ≤ rm.cells) (hn : n ≤ rm.slots) (d : decode cc pc = .ok (.dreturn, 1)) (hΦ : Φ (.inl (some (.double v))) N σ) : J G X ex N k n pc lv [.double v] σ :=
  g_end CM hk hn fun H locs ls hW hS hl => W.dret C.1 C.2.1 (CM.2.1.trans hret) (fun t ht _ => g_post hW hS hΦ t ht _) hS.2.2 d C.2.2.2.2.2.1
theorem j_aret (C : gC G X own cc nL R) {μ : gM} {rm : Room} {Φ : gF} (CM : gCM G X μ rm ex Φ) {v : Nat} {nm : String} (hret : μ.2.2.2.1 = some (.object nm)) (hk : k ≤ rm.cells) (hn : n ≤ rm.slots) (d : decode cc pc = .ok (.areturn, 1)) (hΦ : Φ (.inl (some (.ref v))) N σ) : J G X ex N k n pc lv [.ref v] σ :=
  g_end CM hk hn fun H locs ls hW hS hl => W.aret C.1 C.2.1 (CM.2.1.trans hret) (Or.inl ⟨nm, rfl⟩) (Or.inr ⟨v, rfl⟩) (fun t ht _ => g_post hW hS hΦ t ht _) hS.2.2 d C.2.2.2.2.2.1
theorem j_vret (C : gC G X own cc nL R) {μ : gM} {rm : Room} {Φ : gF} (CM : gCM G X μ rm ex Φ) (hret : μ.2.2.2.1 = none) (hk : k ≤ rm.cells) (hn : n ≤ rm.slots) (d : decode cc pc = .ok (.return_, 1)) (hΦ : Φ (.inl none) N σ) : J G X ex N k n pc lv [] σ :=
  g_end CM hk hn fun H locs ls hW hS hl => W.vret C.1 C.2.1 (CM.2.1.trans hret) (fun t ht _ => g_post hW hS hΦ t ht _) hS.2.2 d C.2.2.2.2.2.1
/-- a thrown object leaves a method without handlers -/
theorem j_out {μ : gM} {rm : Room} {Φ : gF} {E : String} (C : gC G X own cc nL R) (CM : gCM G X μ rm ex Φ) (hh : μ.2.2.2.2 = []) (hk : k ≤ rm.cells) (hn : n ≤ rm.slots) (hΦ : Φ (.inr E) N σ) : JX G X N k n pc lv st σ E := by
  intro H locs ls q ce hW hS hl hce hv hcl
  rw [CM.1]
  refine vx_out (fun x hx => ?_) C.2.2.2.2.2.1 hce hv hcl (fun t ht hal => ⟨⟨N, σ, hΦ, by rw [ht]; exact hW⟩, hS.F ht⟩) hS.2.2 hk hn
  rw [CM.2.2.1, hh] at hx
  cases hx
theorem g_bad {args : Array Value} {s : State} {cls : String} (hU : gU G s) (hca : (cls, cls) ∈ gCa) : ∀ w ∈ Cond.castable cls cls :: gDc.map Cond.declares, w.before args s = true := by
  refine vx_c ((hU.2.2.2.1 _ hca).use rfl) (fun w hw => ?_)
  obtain ⟨q, hq, rfl⟩ := List.mem_map.mp hw
  exact (hU.2.2.2.2.2 q hq).use rfl
/-- throw new E("text") in a method without handlers -/
theorem j_throw {μ : gM} {rm : Room} {Φ : gF} {cls text : String} {names : List String} {ik is ic : Nat} (C : gC G X own cc nL R) (CM : gCM G X μ rm ex Φ) (hh : μ.2.2.2.2 = []) (hcls : Bundle.fit cls = true) (hnames : ∀ n ∈ names, Bundle.fit n = true)
    (hk : Cond.classLink own ik cls ∈ gw) (hini : Cond.initialized cls ∈ gw) (hstr : (own, is, text) ∈ gStr) (hat : ∀ w ∈ (vx_atS own ic cls names).filter goodWord, w ∈ gw) (hat2 : ∀ w ∈ (vx_atS own ic cls names).filter (fun w => !goodWord w), w ∈ Cond.castable cls cls :: gDc.map Cond.declares) (hca : (cls, cls) ∈ gCa)
    (hgood : ∀ w ∈ Cond.classLink own ik cls :: Cond.initialized cls :: vx_atS own ic cls names, vx_ot w = true)
    (d0 : decode cc pc = .ok (.new ik, 3)) (d3 : decode cc (pc + 3) = .ok (.dup, 1)) (d4 : decode cc (pc + 4) = .ok (.ldc is, 2)) (d6 : decode cc (pc + 6) = .ok (.invokespecial ic, 3)) (d9 : decode cc (pc + 9) = .ok (.athrow, 1))
    (hfr : names.length + 3 < R.frames) (hlo : (st.map fun v => v.category).sum + (13 * (names.length + 1) + 43) ≤ R.locals) (hc : k + 1 ≤ R.cells) (hs : n + 6 ≤ R.slots) (hc2 : k + 1 ≤ rm.cells) (hs2 : n + 6 ≤ rm.slots)
    (hΦ : Φ (.inr cls) N σ) : J G X ex N k n pc lv st σ := by
  intro H locs ls hW hS hl
  rw [CM.1]
  have hts := C.2.2.2.2.1
  have hU := C.2.2.2.2.2.2.1
  have hZ := C.2.2.2.2.2.2.2.1
  have hXR : xR X = R := C.2.2.2.2.2.2.2.2
  obtain ⟨sa, hsa⟩ := hU.2.2.1 _ hstr
  refine vx_throwS C.1 C.2.1 hU.2.1 C.2.2.2.1 hcls hnames (hts _ hk) (hts _ hini) hsa (vx_hat (fun w hw => hts w (hat w hw)) hat2 (g_bad hU hca)) hgood hZ.1 hZ.2.1 hS hl.1 d0 d3 d4 d6 d9 (fun x hx => ?_) (by rw [hXR]; exact hfr) (by rw [hXR]; exact hlo) (by rw [hXR]; exact hc) (by rw [hXR]; exact hs) C.2.2.2.2.2.1 (fun t hal hsz hq => ⟨⟨N, σ, hΦ, hW.kept hsz hq⟩, ?_⟩) hS.2.2 hc2 hs2
  · rw [CM.2.2.1, hh] at hx
    cases hx
  · exact ⟨Nat.le_trans hS.1 hsz, fun q h1 h2 => (hq q (Nat.lt_of_lt_of_le h1 hS.1)).trans (hS.2.1 q h1 h2)⟩
/-- the same, where E's maker calls the next one by an index of its own -/
theorem j_throwX {ix : Nat} {rx : ByteArray} (x0 : decode rx 0 = .ok (.aload_n 0, 1)) (x1 : decode rx 1 = .ok (.aload_n 1, 1)) (x2 : decode rx 2 = .ok (.invokespecial ix, 3)) (x5 : decode rx 5 = .ok (.return_, 1)) {μ : gM} {rm : Room} {Φ : gF} {cls text : String} {names : List String} {ik is ic : Nat} (C : gC G X own cc nL R) (CM : gCM G X μ rm ex Φ) (hh : μ.2.2.2.2 = []) (hcls : Bundle.fit cls = true) (hnames : ∀ n ∈ names, Bundle.fit n = true)
    (hk : Cond.classLink own ik cls ∈ gw) (hini : Cond.initialized cls ∈ gw) (hstr : (own, is, text) ∈ gStr) (hat : ∀ w ∈ (gx_at own ic cls ix rx names).filter goodWord, w ∈ gw) (hat2 : ∀ w ∈ (gx_at own ic cls ix rx names).filter (fun w => !goodWord w), w ∈ Cond.castable cls cls :: gDc.map Cond.declares) (hca : (cls, cls) ∈ gCa)
    (hgood : ∀ w ∈ Cond.classLink own ik cls :: Cond.initialized cls :: gx_at own ic cls ix rx names, vx_ot w = true)
    (d0 : decode cc pc = .ok (.new ik, 3)) (d3 : decode cc (pc + 3) = .ok (.dup, 1)) (d4 : decode cc (pc + 4) = .ok (.ldc is, 2)) (d6 : decode cc (pc + 6) = .ok (.invokespecial ic, 3)) (d9 : decode cc (pc + 9) = .ok (.athrow, 1))
    (hfr : names.length + 3 < R.frames) (hlo : (st.map fun v => v.category).sum + (13 * (names.length + 1) + 43) ≤ R.locals) (hc : k + 1 ≤ R.cells) (hs : n + 6 ≤ R.slots) (hc2 : k + 1 ≤ rm.cells) (hs2 : n + 6 ≤ rm.slots)
    (hΦ : Φ (.inr cls) N σ) : J G X ex N k n pc lv st σ := by
  intro H locs ls hW hS hl
  rw [CM.1]
  have hts := C.2.2.2.2.1
  have hU := C.2.2.2.2.2.2.1
  have hZ := C.2.2.2.2.2.2.2.1
  have hXR : xR X = R := C.2.2.2.2.2.2.2.2
  obtain ⟨sa, hsa⟩ := hU.2.2.1 _ hstr
  refine gx_throw x0 x1 x2 x5 C.1 C.2.1 hU.2.1 C.2.2.2.1 hcls hnames (hts _ hk) (hts _ hini) hsa (vx_hat (fun w hw => hts w (hat w hw)) hat2 (g_bad hU hca)) hgood hZ.1 hZ.2.1 hS hl.1 d0 d3 d4 d6 d9 (fun x hx => ?_) (by rw [hXR]; exact hfr) (by rw [hXR]; exact hlo) (by rw [hXR]; exact hc) (by rw [hXR]; exact hs) C.2.2.2.2.2.1 (fun t hal hsz hq => ⟨⟨N, σ, hΦ, hW.kept hsz hq⟩, ?_⟩) hS.2.2 hc2 hs2
  · rw [CM.2.2.1, hh] at hx
    cases hx
  · exact ⟨Nat.le_trans hS.1 hsz, fun q h1 h2 => (hq q (Nat.lt_of_lt_of_le h1 hS.1)).trans (hS.2.1 q h1 h2)⟩
/-- a handler takes it -/
theorem j_catch {μ : gM} {rm : Room} {Φ : gF} {E name : String} (C : gC G X own cc nL R) (CM : gCM G X μ rm ex Φ) (pre : List ExceptionTableEntry) (x : ExceptionTableEntry) (suf : List ExceptionTableEntry) (hsplit : tableOf μ.2.2.2.2 = pre ++ x :: suf)
    (hpass : ∀ z ∈ pre, covers z pc = false ∨ (z.catchType ≠ 0 ∧ ∃ nm : String, Cond.classLink own z.catchType nm ∈ gw ∧ (E, nm) ∈ gNc)) (hx : covers x pc = true) (h0 : x.catchType ≠ 0) (hlink : Cond.classLink own x.catchType name ∈ gw) (hcast : (E, name) ∈ gCa)
    (kk : ∀ q : Nat, J G X false N k n x.handlerPc lv [.ref q] σ) : JX G X N k n pc lv st σ E := by
  intro H locs ls q ce hW hS hl hce hv hcl
  have hts := C.2.2.2.2.1
  have hU := C.2.2.2.2.2.2.1
  refine vx_catch C.2.2.2.1 pre x suf (CM.2.2.1.trans hsplit) (fun z hz => ?_) hx h0 (hts _ hlink) ((hU.2.2.2.1 _ hcast).use rfl) hce hv hcl (kk q H locs ls hW hS hl)
  rcases hpass z hz with h | ⟨h1, nm, h2, h3⟩
  · exact Or.inl h
  · exact Or.inr ⟨h1, nm, hts _ h2, hU.2.2.2.2.1 _ h3⟩
theorem Sp.of {G : gG} {μ : gM} {rm : Room} {ex : Bool} {N : Nat} {av : List Value} {σ : gE} {Φ : gF} (hpl : plainName μ.1.cls = true) (hlen : (lg_sl av).length ≤ μ.2.2.1)
    (h : ∀ X : gX, gC G X μ.1.cls μ.2.1 μ.2.2.1 rm → gCM G X μ rm ex Φ → J G X ex N 0 0 0 (gEnt av μ.2.2.1) [] σ) : Sp G μ rm ex N av σ Φ := by
  have main : ∀ (p : Program) (e : Env) (s : State) (m : MethodId) (args : Array Value) (below : List Frame) (meth : Method) (c : Code) (s₁ : State), BodyLoose p G.1 μ.1 (headSpec (gWs μ) rm) μ.2.1 μ.2.2.1 μ.2.2.2.1 e s m args below meth c s₁ → c.maxLocals = μ.2.2.1 → c.exceptionTable.toList = tableOf μ.2.2.2.2 → gPc G ex N av σ args s →
      W p G.1 e (headSpec (gWs μ) rm).room s m args below meth c s.heap [] 0 0 (vx_MQ below (gQ G ex Φ) (gXC G Φ) args s rm.cells rm.slots (gA G)) (entryFrame m args μ.2.2.1) := by
    intro p e s m args below meth c s₁ B hml htb hv
    obtain ⟨rfl, hU, hZ, hW⟩ := hv
    have hts := atoms_spec (ws := gWs μ) B.pre
    have key := h (p, e, rm, s, m, av.toArray, below, meth, c, vx_MQ below (gQ G ex Φ) (gXC G Φ) av.toArray s rm.cells rm.slots (gA G))
      ⟨B.exec, B.bytes, hml, findClass_of_methodNamed B.named, fun w hw => hts w (List.mem_cons_of_mem _ hw), B.notSynchronized, hU, hZ, rfl⟩
      ⟨rfl, B.returns, htb, (name_of_methodNamed B.named B.method).1⟩
    rw [lg_entry_eq]
    exact key s.heap [] _ hW va_S.rf (by
      have := gH_entry av hlen
      show gH _ c.maxLocals _
      rw [hml]
      exact this)
  cases hh : μ.2.2.2.2 with
  | nil =>
    refine vx_ofW (cc := μ.2.1) (maxL := μ.2.2.1) (ret := μ.2.2.2.1) hpl (ws' := gw) (by show gCd μ :: gw = _; unfold gCd; rw [hh]) ?_
    intro p e s m args below meth c s₁ B hml htb hv
    exact main p e s m args below meth c s₁ B hml (by rw [hh]; exact List.eq_nil_iff_forall_not_mem.mpr (fun x hx => htb x hx)) hv
  | cons a r =>
    have hcd : gCd μ = .codeWith μ.1 μ.2.1 μ.2.2.1 μ.2.2.2.1 μ.2.2.2.2 := by unfold gCd; rw [hh]
    refine vx_ofWH (cc := μ.2.1) (maxL := μ.2.2.1) (ret := μ.2.2.2.1) (hh := μ.2.2.2.2) hpl (ws' := gw) (by show gCd μ :: gw = _; rw [hcd]) ?_
    intro p e s m args below meth c s₁ B hml hv
    have hts := atoms_spec (ws := gWs μ) B.pre
    exact main p e s m args below meth c s₁ B hml (vx_table (x := μ.1) (y := μ.1) B (by rw [← hcd]; exact hts _ List.mem_cons_self)) hv

end JROWS
end
section
/-! the kinds of objects -/
theorem fX0_in : ∀ w ∈ u_ws RX0 TX0 4, w ∈ gw := by
  intro w hw
  simp only [u_ws, show List.range 4 = [0, 1, 2, 3] from rfl, List.map_cons, List.map_nil, List.mem_cons, List.not_mem_nil, or_false] at hw
  rcases hw with rfl | rfl | rfl | rfl
  · exact gw_t 92 (by decide +kernel) rfl
  · exact gw_t 94 (by decide +kernel) rfl
  · exact gw_t 96 (by decide +kernel) rfl
  · exact gw_t 98 (by decide +kernel) rfl
theorem fX0 : gFd 2 RX0 TX0 4 tyX0 := ⟨rfl, fX0_in, tyX0_ok, nmX0⟩
theorem fX1_in : ∀ w ∈ u_ws RX1 TX1 8, w ∈ gw := by
  intro w hw
  simp only [u_ws, show List.range 8 = [0, 1, 2, 3, 4, 5, 6, 7] from rfl, List.map_cons, List.map_nil, List.mem_cons, List.not_mem_nil, or_false] at hw
  rcases hw with rfl | rfl | rfl | rfl | rfl | rfl | rfl | rfl
  · exact gw_t 56 (by decide +kernel) rfl
  · exact gw_t 58 (by decide +kernel) rfl
  · exact gw_t 60 (by decide +kernel) rfl
  · exact gw_t 62 (by decide +kernel) rfl
  · exact gw_t 64 (by decide +kernel) rfl
  · exact gw_t 66 (by decide +kernel) rfl
  · exact gw_t 68 (by decide +kernel) rfl
  · exact gw_t 70 (by decide +kernel) rfl
theorem fX1 : gFd 3 RX1 TX1 8 tyX1 := ⟨rfl, fX1_in, tyX1_ok, nmX1⟩
theorem fX3_in : ∀ w ∈ u_ws RX3 TX3 6, w ∈ gw := by
  intro w hw
  simp only [u_ws, show List.range 6 = [0, 1, 2, 3, 4, 5] from rfl, List.map_cons, List.map_nil, List.mem_cons, List.not_mem_nil, or_false] at hw
  rcases hw with rfl | rfl | rfl | rfl | rfl | rfl
  · exact gw_t 131 (by decide +kernel) rfl
  · exact gw_t 133 (by decide +kernel) rfl
  · exact gw_t 135 (by decide +kernel) rfl
  · exact gw_t 137 (by decide +kernel) rfl
  · exact gw_t 139 (by decide +kernel) rfl
  · exact gw_t 141 (by decide +kernel) rfl
theorem fX3 : gFd 4 RX3 TX3 6 tyX3 := ⟨rfl, fX3_in, tyX3_ok, nmX3⟩
theorem fX4_in : ∀ w ∈ u_ws RX4 TX4 1, w ∈ gw := by
  intro w hw
  simp only [u_ws, show List.range 1 = [0] from rfl, List.map_cons, List.map_nil, List.mem_cons, List.not_mem_nil, or_false] at hw
  rcases hw with rfl
  · exact gw_t 44 (by decide +kernel) rfl
theorem fX4 : gFd 5 RX4 TX4 1 tyX4 := ⟨rfl, fX4_in, tyX4_ok, nmX4⟩
theorem fX5_in : ∀ w ∈ u_ws RX5 TX5 5, w ∈ gw := by
  intro w hw
  simp only [u_ws, show List.range 5 = [0, 1, 2, 3, 4] from rfl, List.map_cons, List.map_nil, List.mem_cons, List.not_mem_nil, or_false] at hw
  rcases hw with rfl | rfl | rfl | rfl | rfl
  · exact gw_t 108 (by decide +kernel) rfl
  · exact gw_t 110 (by decide +kernel) rfl
  · exact gw_t 112 (by decide +kernel) rfl
  · exact gw_t 114 (by decide +kernel) rfl
  · exact gw_t 116 (by decide +kernel) rfl
theorem fX5 : gFd 6 RX5 TX5 5 tyX5 := ⟨rfl, fX5_in, tyX5_ok, nmX5⟩
theorem fX6_in : ∀ w ∈ u_ws RX6 TX6 7, w ∈ gw := by
  intro w hw
  simp only [u_ws, show List.range 7 = [0, 1, 2, 3, 4, 5, 6] from rfl, List.map_cons, List.map_nil, List.mem_cons, List.not_mem_nil, or_false] at hw
  rcases hw with rfl | rfl | rfl | rfl | rfl | rfl | rfl
  · exact gw_t 153 (by decide +kernel) rfl
  · exact gw_t 155 (by decide +kernel) rfl
  · exact gw_t 157 (by decide +kernel) rfl
  · exact gw_t 159 (by decide +kernel) rfl
  · exact gw_t 161 (by decide +kernel) rfl
  · exact gw_t 163 (by decide +kernel) rfl
  · exact gw_t 165 (by decide +kernel) rfl
theorem fX6 : gFd 7 RX6 TX6 7 tyX6 := ⟨rfl, fX6_in, tyX6_ok, nmX6⟩
theorem fX7_in : ∀ w ∈ u_ws RX7 TX7 25, w ∈ gw := by
  intro w hw
  simp only [u_ws, show List.range 25 = [0, 1, 2, 3, 4, 5, 6, 7, 8, 9, 10, 11, 12, 13, 14, 15, 16, 17, 18, 19, 20, 21, 22, 23, 24] from rfl, List.map_cons, List.map_nil, List.mem_cons, List.not_mem_nil, or_false] at hw
  rcases hw with rfl | rfl | rfl | rfl | rfl | rfl | rfl | rfl | rfl | rfl | rfl | rfl | rfl | rfl | rfl | rfl | rfl | rfl | rfl | rfl | rfl | rfl | rfl | rfl | rfl
  · exact gw_t 891 (by decide +kernel) rfl
  · exact gw_t 893 (by decide +kernel) rfl
  · exact gw_t 895 (by decide +kernel) rfl
  · exact gw_t 897 (by decide +kernel) rfl
  · exact gw_t 899 (by decide +kernel) rfl
  · exact gw_t 901 (by decide +kernel) rfl
  · exact gw_t 903 (by decide +kernel) rfl
  · exact gw_t 905 (by decide +kernel) rfl
  · exact gw_t 907 (by decide +kernel) rfl
  · exact gw_t 909 (by decide +kernel) rfl
  · exact gw_t 911 (by decide +kernel) rfl
  · exact gw_t 913 (by decide +kernel) rfl
  · exact gw_t 915 (by decide +kernel) rfl
  · exact gw_t 917 (by decide +kernel) rfl
  · exact gw_t 919 (by decide +kernel) rfl
  · exact gw_t 921 (by decide +kernel) rfl
  · exact gw_t 923 (by decide +kernel) rfl
  · exact gw_t 925 (by decide +kernel) rfl
  · exact gw_t 927 (by decide +kernel) rfl
  · exact gw_t 929 (by decide +kernel) rfl
  · exact gw_t 931 (by decide +kernel) rfl
  · exact gw_t 933 (by decide +kernel) rfl
  · exact gw_t 935 (by decide +kernel) rfl
  · exact gw_t 937 (by decide +kernel) rfl
  · exact gw_t 939 (by decide +kernel) rfl
theorem fX7 : gFd 8 RX7 TX7 25 tyX7 := ⟨rfl, fX7_in, tyX7_ok, nmX7⟩
/-! methods -/
abbrev mX6_init : gM := (yX6_init, cX6_init, 2, none, [])
theorem kX6_init : gKn mX6_init 0 := ⟨gw_t 26 (by decide +kernel) rfl, gw_t 1 (by decide +kernel) rfl, by decide +kernel, by decide +kernel⟩
theorem iX6_init : Cond.instanceMethod yX6_init ∈ gw := gw_t 25 (by decide +kernel) rfl
abbrev mX1_init : gM := (yX1_init, cX1_init, 2, none, [])
theorem kX1_init : gKn mX1_init 0 := ⟨gw_t 34 (by decide +kernel) rfl, gw_t 2 (by decide +kernel) rfl, by decide +kernel, by decide +kernel⟩
theorem iX1_init : Cond.instanceMethod yX1_init ∈ gw := gw_t 33 (by decide +kernel) rfl
abbrev mX4_init : gM := (yX4_init, cX4_init, 2, none, [])
theorem kX4_init : gKn mX4_init 0 := ⟨gw_t 41 (by decide +kernel) rfl, gw_t 3 (by decide +kernel) rfl, by decide +kernel, by decide +kernel⟩
theorem iX4_init : Cond.instanceMethod yX4_init ∈ gw := gw_t 40 (by decide +kernel) rfl
abbrev mX5_init : gM := (yX5_init, cX5_init, 1, none, [])
theorem kX5_init : gKn mX5_init 0 := ⟨gw_t 78 (by decide +kernel) rfl, gw_t 4 (by decide +kernel) rfl, by decide +kernel, by decide +kernel⟩
theorem iX5_init : Cond.instanceMethod yX5_init ∈ gw := gw_t 77 (by decide +kernel) rfl
abbrev mX0_init : gM := (yX0_init, cX0_init, 1, none, [])
theorem kX0_init : gKn mX0_init 0 := ⟨gw_t 84 (by decide +kernel) rfl, gw_t 5 (by decide +kernel) rfl, by decide +kernel, by decide +kernel⟩
theorem iX0_init : Cond.instanceMethod yX0_init ∈ gw := gw_t 83 (by decide +kernel) rfl
abbrev mX3_init : gM := (yX3_init, cX3_init, 1, none, [])
theorem kX3_init : gKn mX3_init 0 := ⟨gw_t 123 (by decide +kernel) rfl, gw_t 6 (by decide +kernel) rfl, by decide +kernel, by decide +kernel⟩
theorem iX3_init : Cond.instanceMethod yX3_init ∈ gw := gw_t 122 (by decide +kernel) rfl
abbrev mX6_changedPaths : gM := (yX6_changedPaths, cX6_changedPaths, 1, (some .int), [])
theorem kX6_changedPaths : gKn mX6_changedPaths 0 := ⟨gw_t 171 (by decide +kernel) rfl, gw_t 1 (by decide +kernel) rfl, by decide +kernel, by decide +kernel⟩
theorem iX6_changedPaths : Cond.instanceMethod yX6_changedPaths ∈ gw := gw_t 169 (by decide +kernel) rfl
theorem sX6_changedPaths : Cond.selects RX6 yX6_changedPaths yX6_changedPaths ∈ gw := gw_t 170 (by decide +kernel) rfl
abbrev mX6_headOf : gM := (yX6_headOf, cX6_headOf, 2, (some .int), [])
theorem kX6_headOf : gKn mX6_headOf 1 := ⟨gw_t 175 (by decide +kernel) rfl, gw_t 1 (by decide +kernel) rfl, by decide +kernel, by decide +kernel⟩
theorem iX6_headOf : Cond.instanceMethod yX6_headOf ∈ gw := gw_t 174 (by decide +kernel) rfl
theorem sX6_headOf : Cond.selects RX6 yX6_headOf yX6_headOf ∈ gw := gw_p 0 (by decide +kernel) rfl
abbrev mX6_isBranchNumber : gM := (yX6_isBranchNumber, cX6_isBranchNumber, 1, (some .boolean), [])
theorem kX6_isBranchNumber : gKn mX6_isBranchNumber 1 := ⟨gw_t 178 (by decide +kernel) rfl, gw_t 1 (by decide +kernel) rfl, by decide +kernel, by decide +kernel⟩
theorem tX6_isBranchNumber : Cond.static yX6_isBranchNumber ∈ gw := gw_t 177 (by decide +kernel) rfl
abbrev mX1_treeOf : gM := (yX1_treeOf, cX1_treeOf, 3, (some (.object "ForkHall$Tree")), [])
theorem kX1_treeOf : gKn mX1_treeOf 1 := ⟨gw_t 182 (by decide +kernel) rfl, gw_t 2 (by decide +kernel) rfl, by decide +kernel, by decide +kernel⟩
theorem iX1_treeOf : Cond.instanceMethod yX1_treeOf ∈ gw := gw_t 180 (by decide +kernel) rfl
theorem sX1_treeOf : Cond.selects RX1 yX1_treeOf yX1_treeOf ∈ gw := gw_t 181 (by decide +kernel) rfl
abbrev mX1_has : gM := (yX1_has, cX1_has, 2, (some .boolean), [])
theorem kX1_has : gKn mX1_has 1 := ⟨gw_t 186 (by decide +kernel) rfl, gw_t 2 (by decide +kernel) rfl, by decide +kernel, by decide +kernel⟩
theorem iX1_has : Cond.instanceMethod yX1_has ∈ gw := gw_t 184 (by decide +kernel) rfl
theorem sX1_has : Cond.selects RX1 yX1_has yX1_has ∈ gw := gw_t 185 (by decide +kernel) rfl
abbrev mX4_differences : gM := (yX4_differences, cX4_differences, 4, (some .int), [])
theorem kX4_differences : gKn mX4_differences 1 := ⟨gw_t 190 (by decide +kernel) rfl, gw_t 3 (by decide +kernel) rfl, by decide +kernel, by decide +kernel⟩
theorem iX4_differences : Cond.instanceMethod yX4_differences ∈ gw := gw_t 188 (by decide +kernel) rfl
theorem sX4_differences : Cond.selects RX4 yX4_differences yX4_differences ∈ gw := gw_t 189 (by decide +kernel) rfl
abbrev mX4_at : gM := (yX4_at, cX4_at, 2, (some .int), [])
theorem kX4_at : gKn mX4_at 1 := ⟨gw_t 194 (by decide +kernel) rfl, gw_t 3 (by decide +kernel) rfl, by decide +kernel, by decide +kernel⟩
theorem iX4_at : Cond.instanceMethod yX4_at ∈ gw := gw_t 192 (by decide +kernel) rfl
theorem sX4_at : Cond.selects RX4 yX4_at yX4_at ∈ gw := gw_t 193 (by decide +kernel) rfl
abbrev mX6_currentBranch : gM := (yX6_currentBranch, cX6_currentBranch, 1, (some .int), [])
theorem kX6_currentBranch : gKn mX6_currentBranch 0 := ⟨gw_t 198 (by decide +kernel) rfl, gw_t 1 (by decide +kernel) rfl, by decide +kernel, by decide +kernel⟩
theorem iX6_currentBranch : Cond.instanceMethod yX6_currentBranch ∈ gw := gw_t 196 (by decide +kernel) rfl
theorem sX6_currentBranch : Cond.selects RX6 yX6_currentBranch yX6_currentBranch ∈ gw := gw_t 197 (by decide +kernel) rfl
abbrev mX6_commits : gM := (yX6_commits, cX6_commits, 1, (some .int), [])
theorem kX6_commits : gKn mX6_commits 0 := ⟨gw_t 202 (by decide +kernel) rfl, gw_t 1 (by decide +kernel) rfl, by decide +kernel, by decide +kernel⟩
theorem iX6_commits : Cond.instanceMethod yX6_commits ∈ gw := gw_t 200 (by decide +kernel) rfl
theorem sX6_commits : Cond.selects RX6 yX6_commits yX6_commits ∈ gw := gw_t 201 (by decide +kernel) rfl
abbrev mX1_size : gM := (yX1_size, cX1_size, 1, (some .int), [])
theorem kX1_size : gKn mX1_size 0 := ⟨gw_t 206 (by decide +kernel) rfl, gw_t 2 (by decide +kernel) rfl, by decide +kernel, by decide +kernel⟩
theorem iX1_size : Cond.instanceMethod yX1_size ∈ gw := gw_t 204 (by decide +kernel) rfl
theorem sX1_size : Cond.selects RX1 yX1_size yX1_size ∈ gw := gw_t 205 (by decide +kernel) rfl
abbrev mX6_packed : gM := (yX6_packed, cX6_packed, 1, (some .int), [])
theorem kX6_packed : gKn mX6_packed 0 := ⟨gw_t 210 (by decide +kernel) rfl, gw_t 1 (by decide +kernel) rfl, by decide +kernel, by decide +kernel⟩
theorem iX6_packed : Cond.instanceMethod yX6_packed ∈ gw := gw_t 208 (by decide +kernel) rfl
theorem sX6_packed : Cond.selects RX6 yX6_packed yX6_packed ∈ gw := gw_t 209 (by decide +kernel) rfl
abbrev mX3_size : gM := (yX3_size, cX3_size, 1, (some .int), [])
theorem kX3_size : gKn mX3_size 0 := ⟨gw_t 214 (by decide +kernel) rfl, gw_t 6 (by decide +kernel) rfl, by decide +kernel, by decide +kernel⟩
theorem iX3_size : Cond.instanceMethod yX3_size ∈ gw := gw_t 212 (by decide +kernel) rfl
theorem sX3_size : Cond.selects RX3 yX3_size yX3_size ∈ gw := gw_t 213 (by decide +kernel) rfl
abbrev mX6_packSize : gM := (yX6_packSize, cX6_packSize, 1, (some .long), [])
theorem kX6_packSize : gKn mX6_packSize 0 := ⟨gw_t 218 (by decide +kernel) rfl, gw_t 1 (by decide +kernel) rfl, by decide +kernel, by decide +kernel⟩
theorem iX6_packSize : Cond.instanceMethod yX6_packSize ∈ gw := gw_t 216 (by decide +kernel) rfl
theorem sX6_packSize : Cond.selects RX6 yX6_packSize yX6_packSize ∈ gw := gw_t 217 (by decide +kernel) rfl
abbrev mX3_sumOfSizes : gM := (yX3_sumOfSizes, cX3_sumOfSizes, 1, (some .long), [])
theorem kX3_sumOfSizes : gKn mX3_sumOfSizes 0 := ⟨gw_t 222 (by decide +kernel) rfl, gw_t 6 (by decide +kernel) rfl, by decide +kernel, by decide +kernel⟩
theorem iX3_sumOfSizes : Cond.instanceMethod yX3_sumOfSizes ∈ gw := gw_t 220 (by decide +kernel) rfl
theorem sX3_sumOfSizes : Cond.selects RX3 yX3_sumOfSizes yX3_sumOfSizes ∈ gw := gw_t 221 (by decide +kernel) rfl
abbrev mX6_meanFiles : gM := (yX6_meanFiles, cX6_meanFiles, 2, (some .double), [])
theorem kX6_meanFiles : gKn mX6_meanFiles 0 := ⟨gw_t 226 (by decide +kernel) rfl, gw_t 1 (by decide +kernel) rfl, by decide +kernel, by decide +kernel⟩
theorem iX6_meanFiles : Cond.instanceMethod yX6_meanFiles ∈ gw := gw_t 224 (by decide +kernel) rfl
theorem sX6_meanFiles : Cond.selects RX6 yX6_meanFiles yX6_meanFiles ∈ gw := gw_t 225 (by decide +kernel) rfl
abbrev mX1_sumOfFiles : gM := (yX1_sumOfFiles, cX1_sumOfFiles, 3, (some .int), [])
theorem kX1_sumOfFiles : gKn mX1_sumOfFiles 0 := ⟨gw_t 230 (by decide +kernel) rfl, gw_t 2 (by decide +kernel) rfl, by decide +kernel, by decide +kernel⟩
theorem iX1_sumOfFiles : Cond.instanceMethod yX1_sumOfFiles ∈ gw := gw_t 228 (by decide +kernel) rfl
theorem sX1_sumOfFiles : Cond.selects RX1 yX1_sumOfFiles yX1_sumOfFiles ∈ gw := gw_t 229 (by decide +kernel) rfl
abbrev mX4_countFiles : gM := (yX4_countFiles, cX4_countFiles, 3, (some .int), [])
theorem kX4_countFiles : gKn mX4_countFiles 0 := ⟨gw_t 235 (by decide +kernel) rfl, gw_t 3 (by decide +kernel) rfl, by decide +kernel, by decide +kernel⟩
theorem iX4_countFiles : Cond.instanceMethod yX4_countFiles ∈ gw := gw_t 233 (by decide +kernel) rfl
theorem sX4_countFiles : Cond.selects RX4 yX4_countFiles yX4_countFiles ∈ gw := gw_t 234 (by decide +kernel) rfl
abbrev mL_write : gM := (yL_write, cL_write, 5, (some .int), [(0, 10, 13, 13), (0, 10, 17, 15)])
theorem kL_write : gKn mL_write 4 := ⟨gw_t 238 (by decide +kernel) rfl, gw_t 0 (by decide +kernel) rfl, by decide +kernel, by decide +kernel⟩
theorem tL_write : Cond.static yL_write ∈ gw := gw_t 237 (by decide +kernel) rfl
abbrev mJx00060_init_a7421 : gM := (yJx00060_init_a7421, cJx00060_init_a7421, 2, none, [])
theorem kJx00060_init_a7421 : gKn mJx00060_init_a7421 1 := ⟨gw_t 242 (by decide +kernel) rfl, gw_t 12 (by decide +kernel) rfl, by decide +kernel, by decide +kernel⟩
theorem iJx00060_init_a7421 : Cond.instanceMethod yJx00060_init_a7421 ∈ gw := gw_t 241 (by decide +kernel) rfl
abbrev mX6_write : gM := (yX6_write, cX6_write, 4, (some .int), [])
theorem kX6_write : gKn mX6_write 2 := ⟨gw_t 323 (by decide +kernel) rfl, gw_t 1 (by decide +kernel) rfl, by decide +kernel, by decide +kernel⟩
theorem iX6_write : Cond.instanceMethod yX6_write ∈ gw := gw_t 321 (by decide +kernel) rfl
theorem sX6_write : Cond.selects RX6 yX6_write yX6_write ∈ gw := gw_t 322 (by decide +kernel) rfl
abbrev mX6_requirePath : gM := (yX6_requirePath, cX6_requirePath, 1, none, [])
theorem kX6_requirePath : gKn mX6_requirePath 1 := ⟨gw_t 326 (by decide +kernel) rfl, gw_t 1 (by decide +kernel) rfl, by decide +kernel, by decide +kernel⟩
theorem tX6_requirePath : Cond.static yX6_requirePath ∈ gw := gw_t 325 (by decide +kernel) rfl
abbrev mX4_put : gM := (yX4_put, cX4_put, 3, none, [])
theorem kX4_put : gKn mX4_put 2 := ⟨gw_t 360 (by decide +kernel) rfl, gw_t 3 (by decide +kernel) rfl, by decide +kernel, by decide +kernel⟩
theorem iX4_put : Cond.instanceMethod yX4_put ∈ gw := gw_t 358 (by decide +kernel) rfl
theorem sX4_put : Cond.selects RX4 yX4_put yX4_put ∈ gw := gw_t 359 (by decide +kernel) rfl
abbrev mL_erase : gM := (yL_erase, cL_erase, 4, (some .int), [(0, 9, 12, 13), (0, 9, 15, 21)])
theorem kL_erase : gKn mL_erase 3 := ⟨gw_t 363 (by decide +kernel) rfl, gw_t 0 (by decide +kernel) rfl, by decide +kernel, by decide +kernel⟩
theorem tL_erase : Cond.static yL_erase ∈ gw := gw_t 362 (by decide +kernel) rfl
abbrev mX6_erase : gM := (yX6_erase, cX6_erase, 3, (some .int), [])
theorem kX6_erase : gKn mX6_erase 1 := ⟨gw_t 368 (by decide +kernel) rfl, gw_t 1 (by decide +kernel) rfl, by decide +kernel, by decide +kernel⟩
theorem iX6_erase : Cond.instanceMethod yX6_erase ∈ gw := gw_t 366 (by decide +kernel) rfl
theorem sX6_erase : Cond.selects RX6 yX6_erase yX6_erase ∈ gw := gw_t 367 (by decide +kernel) rfl
abbrev mX6_requireFile : gM := (yX6_requireFile, cX6_requireFile, 3, (some .int), [])
theorem kX6_requireFile : gKn mX6_requireFile 2 := ⟨gw_t 371 (by decide +kernel) rfl, gw_t 1 (by decide +kernel) rfl, by decide +kernel, by decide +kernel⟩
theorem tX6_requireFile : Cond.static yX6_requireFile ∈ gw := gw_t 370 (by decide +kernel) rfl
abbrev mL_move : gM := (yL_move, cL_move, 5, (some .int), [(0, 10, 13, 13), (0, 10, 17, 21), (0, 10, 21, 26)])
theorem kL_move : gKn mL_move 4 := ⟨gw_t 390 (by decide +kernel) rfl, gw_t 0 (by decide +kernel) rfl, by decide +kernel, by decide +kernel⟩
theorem tL_move : Cond.static yL_move ∈ gw := gw_t 389 (by decide +kernel) rfl
abbrev mX6_move : gM := (yX6_move, cX6_move, 4, (some .int), [])
theorem kX6_move : gKn mX6_move 2 := ⟨gw_t 395 (by decide +kernel) rfl, gw_t 1 (by decide +kernel) rfl, by decide +kernel, by decide +kernel⟩
theorem iX6_move : Cond.instanceMethod yX6_move ∈ gw := gw_t 393 (by decide +kernel) rfl
theorem sX6_move : Cond.selects RX6 yX6_move yX6_move ∈ gw := gw_t 394 (by decide +kernel) rfl
abbrev mL_content : gM := (yL_content, cL_content, 4, (some .int), [(0, 9, 12, 13), (0, 9, 15, 21)])
theorem kL_content : gKn mL_content 3 := ⟨gw_t 414 (by decide +kernel) rfl, gw_t 0 (by decide +kernel) rfl, by decide +kernel, by decide +kernel⟩
theorem tL_content : Cond.static yL_content ∈ gw := gw_t 413 (by decide +kernel) rfl
abbrev mX6_content : gM := (yX6_content, cX6_content, 2, (some .int), [])
theorem kX6_content : gKn mX6_content 1 := ⟨gw_t 418 (by decide +kernel) rfl, gw_t 1 (by decide +kernel) rfl, by decide +kernel, by decide +kernel⟩
theorem iX6_content : Cond.instanceMethod yX6_content ∈ gw := gw_t 416 (by decide +kernel) rfl
theorem sX6_content : Cond.selects RX6 yX6_content yX6_content ∈ gw := gw_t 417 (by decide +kernel) rfl
abbrev mL_commit : gM := (yL_commit, cL_commit, 3, (some .int), [(0, 8, 11, 26)])
theorem kL_commit : gKn mL_commit 2 := ⟨gw_t 421 (by decide +kernel) rfl, gw_t 0 (by decide +kernel) rfl, by decide +kernel, by decide +kernel⟩
theorem tL_commit : Cond.static yL_commit ∈ gw := gw_t 420 (by decide +kernel) rfl
abbrev mX6_commit : gM := (yX6_commit, cX6_commit, 2, (some .int), [])
theorem kX6_commit : gKn mX6_commit 0 := ⟨gw_t 425 (by decide +kernel) rfl, gw_t 1 (by decide +kernel) rfl, by decide +kernel, by decide +kernel⟩
theorem iX6_commit : Cond.instanceMethod yX6_commit ∈ gw := gw_t 423 (by decide +kernel) rfl
theorem sX6_commit : Cond.selects RX6 yX6_commit yX6_commit ∈ gw := gw_t 424 (by decide +kernel) rfl
abbrev mX1_record : gM := (yX1_record, cX1_record, 6, (some .int), [])
theorem kX1_record : gKn mX1_record 3 := ⟨gw_t 431 (by decide +kernel) rfl, gw_t 2 (by decide +kernel) rfl, by decide +kernel, by decide +kernel⟩
theorem iX1_record : Cond.instanceMethod yX1_record ∈ gw := gw_t 429 (by decide +kernel) rfl
theorem sX1_record : Cond.selects RX1 yX1_record yX1_record ∈ gw := gw_t 430 (by decide +kernel) rfl
abbrev mX1_findSame : gM := (yX1_findSame, cX1_findSame, 5, (some .int), [])
theorem kX1_findSame : gKn mX1_findSame 3 := ⟨gw_t 435 (by decide +kernel) rfl, gw_t 2 (by decide +kernel) rfl, by decide +kernel, by decide +kernel⟩
theorem iX1_findSame : Cond.instanceMethod yX1_findSame ∈ gw := gw_t 434 (by decide +kernel) rfl
theorem sX1_findSame : Cond.selects RX1 yX1_findSame yX1_findSame ∈ gw := gw_p 2 (by decide +kernel) rfl
abbrev mX1_firstParent : gM := (yX1_firstParent, cX1_firstParent, 2, (some .int), [])
theorem kX1_firstParent : gKn mX1_firstParent 1 := ⟨gw_t 439 (by decide +kernel) rfl, gw_t 2 (by decide +kernel) rfl, by decide +kernel, by decide +kernel⟩
theorem iX1_firstParent : Cond.instanceMethod yX1_firstParent ∈ gw := gw_t 437 (by decide +kernel) rfl
theorem sX1_firstParent : Cond.selects RX1 yX1_firstParent yX1_firstParent ∈ gw := gw_t 438 (by decide +kernel) rfl
abbrev mX1_secondParent : gM := (yX1_secondParent, cX1_secondParent, 2, (some .int), [])
theorem kX1_secondParent : gKn mX1_secondParent 1 := ⟨gw_t 443 (by decide +kernel) rfl, gw_t 2 (by decide +kernel) rfl, by decide +kernel, by decide +kernel⟩
theorem iX1_secondParent : Cond.instanceMethod yX1_secondParent ∈ gw := gw_t 441 (by decide +kernel) rfl
theorem sX1_secondParent : Cond.selects RX1 yX1_secondParent yX1_secondParent ∈ gw := gw_t 442 (by decide +kernel) rfl
abbrev mX4_copy : gM := (yX4_copy, cX4_copy, 3, none, [])
theorem kX4_copy : gKn mX4_copy 1 := ⟨gw_t 448 (by decide +kernel) rfl, gw_t 3 (by decide +kernel) rfl, by decide +kernel, by decide +kernel⟩
theorem iX4_copy : Cond.instanceMethod yX4_copy ∈ gw := gw_t 446 (by decide +kernel) rfl
theorem sX4_copy : Cond.selects RX4 yX4_copy yX4_copy ∈ gw := gw_t 447 (by decide +kernel) rfl
abbrev mX1_generationAt : gM := (yX1_generationAt, cX1_generationAt, 2, (some .int), [])
theorem kX1_generationAt : gKn mX1_generationAt 1 := ⟨gw_t 452 (by decide +kernel) rfl, gw_t 2 (by decide +kernel) rfl, by decide +kernel, by decide +kernel⟩
theorem iX1_generationAt : Cond.instanceMethod yX1_generationAt ∈ gw := gw_t 450 (by decide +kernel) rfl
theorem sX1_generationAt : Cond.selects RX1 yX1_generationAt yX1_generationAt ∈ gw := gw_t 451 (by decide +kernel) rfl
abbrev mJ9_max_7cf53 : gM := (yJ9_max_7cf53, cJ9_max_7cf53, 2, (some .int), [])
theorem kJ9_max_7cf53 : gKn mJ9_max_7cf53 2 := ⟨gw_t 455 (by decide +kernel) rfl, gw_t 17 (by decide +kernel) rfl, by decide +kernel, by decide +kernel⟩
theorem tJ9_max_7cf53 : Cond.static yJ9_max_7cf53 ∈ gw := gw_t 454 (by decide +kernel) rfl
abbrev mX1_ancestorsAt : gM := (yX1_ancestorsAt, cX1_ancestorsAt, 2, (some .long), [])
theorem kX1_ancestorsAt : gKn mX1_ancestorsAt 1 := ⟨gw_t 459 (by decide +kernel) rfl, gw_t 2 (by decide +kernel) rfl, by decide +kernel, by decide +kernel⟩
theorem iX1_ancestorsAt : Cond.instanceMethod yX1_ancestorsAt ∈ gw := gw_t 458 (by decide +kernel) rfl
theorem sX1_ancestorsAt : Cond.selects RX1 yX1_ancestorsAt yX1_ancestorsAt ∈ gw := gw_p 3 (by decide +kernel) rfl
abbrev mX6_takeAsHead : gM := (yX6_takeAsHead, cX6_takeAsHead, 2, none, [])
theorem kX6_takeAsHead : gKn mX6_takeAsHead 1 := ⟨gw_t 464 (by decide +kernel) rfl, gw_t 1 (by decide +kernel) rfl, by decide +kernel, by decide +kernel⟩
theorem iX6_takeAsHead : Cond.instanceMethod yX6_takeAsHead ∈ gw := gw_t 463 (by decide +kernel) rfl
theorem sX6_takeAsHead : Cond.selects RX6 yX6_takeAsHead yX6_takeAsHead ∈ gw := gw_p 4 (by decide +kernel) rfl
abbrev mX3_catchUpWith : gM := (yX3_catchUpWith, cX3_catchUpWith, 4, none, [])
theorem kX3_catchUpWith : gKn mX3_catchUpWith 1 := ⟨gw_t 469 (by decide +kernel) rfl, gw_t 6 (by decide +kernel) rfl, by decide +kernel, by decide +kernel⟩
theorem iX3_catchUpWith : Cond.instanceMethod yX3_catchUpWith ∈ gw := gw_t 467 (by decide +kernel) rfl
theorem sX3_catchUpWith : Cond.selects RX3 yX3_catchUpWith yX3_catchUpWith ∈ gw := gw_t 468 (by decide +kernel) rfl
abbrev mX3_add : gM := (yX3_add, cX3_add, 6, none, [])
theorem kX3_add : gKn mX3_add 1 := ⟨gw_t 476 (by decide +kernel) rfl, gw_t 6 (by decide +kernel) rfl, by decide +kernel, by decide +kernel⟩
theorem iX3_add : Cond.instanceMethod yX3_add ∈ gw := gw_t 475 (by decide +kernel) rfl
theorem sX3_add : Cond.selects RX3 yX3_add yX3_add ∈ gw := gw_p 5 (by decide +kernel) rfl
abbrev mX3_find : gM := (yX3_find, cX3_find, 3, (some .int), [])
theorem kX3_find : gKn mX3_find 1 := ⟨gw_t 480 (by decide +kernel) rfl, gw_t 6 (by decide +kernel) rfl, by decide +kernel, by decide +kernel⟩
theorem iX3_find : Cond.instanceMethod yX3_find ∈ gw := gw_t 478 (by decide +kernel) rfl
theorem sX3_find : Cond.selects RX3 yX3_find yX3_find ∈ gw := gw_t 479 (by decide +kernel) rfl
abbrev mX2_likeness : gM := (yX2_likeness, cX2_likeness, 6, (some .int), [])
theorem kX2_likeness : gKn mX2_likeness 2 := ⟨gw_t 483 (by decide +kernel) rfl, gw_t 18 (by decide +kernel) rfl, by decide +kernel, by decide +kernel⟩
theorem tX2_likeness : Cond.static yX2_likeness ∈ gw := gw_t 482 (by decide +kernel) rfl
abbrev mL_branch : gM := (yL_branch, cL_branch, 4, (some .int), [(0, 9, 12, 13), (0, 9, 15, 26)])
theorem kL_branch : gKn mL_branch 3 := ⟨gw_t 486 (by decide +kernel) rfl, gw_t 0 (by decide +kernel) rfl, by decide +kernel, by decide +kernel⟩
theorem tL_branch : Cond.static yL_branch ∈ gw := gw_t 485 (by decide +kernel) rfl
abbrev mX6_branch : gM := (yX6_branch, cX6_branch, 2, (some .int), [])
theorem kX6_branch : gKn mX6_branch 1 := ⟨gw_t 490 (by decide +kernel) rfl, gw_t 1 (by decide +kernel) rfl, by decide +kernel, by decide +kernel⟩
theorem iX6_branch : Cond.instanceMethod yX6_branch ∈ gw := gw_t 488 (by decide +kernel) rfl
theorem sX6_branch : Cond.selects RX6 yX6_branch yX6_branch ∈ gw := gw_t 489 (by decide +kernel) rfl
abbrev mL_checkOut : gM := (yL_checkOut, cL_checkOut, 4, (some .int), [(0, 9, 12, 13), (0, 9, 15, 21), (0, 9, 18, 26)])
theorem kL_checkOut : gKn mL_checkOut 3 := ⟨gw_t 495 (by decide +kernel) rfl, gw_t 0 (by decide +kernel) rfl, by decide +kernel, by decide +kernel⟩
theorem tL_checkOut : Cond.static yL_checkOut ∈ gw := gw_t 494 (by decide +kernel) rfl
abbrev mX6_checkOut : gM := (yX6_checkOut, cX6_checkOut, 3, (some .int), [])
theorem kX6_checkOut : gKn mX6_checkOut 1 := ⟨gw_t 499 (by decide +kernel) rfl, gw_t 1 (by decide +kernel) rfl, by decide +kernel, by decide +kernel⟩
theorem iX6_checkOut : Cond.instanceMethod yX6_checkOut ∈ gw := gw_t 497 (by decide +kernel) rfl
theorem sX6_checkOut : Cond.selects RX6 yX6_checkOut yX6_checkOut ∈ gw := gw_t 498 (by decide +kernel) rfl
abbrev mX6_requireHead : gM := (yX6_requireHead, cX6_requireHead, 3, (some .int), [])
theorem kX6_requireHead : gKn mX6_requireHead 1 := ⟨gw_t 503 (by decide +kernel) rfl, gw_t 1 (by decide +kernel) rfl, by decide +kernel, by decide +kernel⟩
theorem iX6_requireHead : Cond.instanceMethod yX6_requireHead ∈ gw := gw_t 502 (by decide +kernel) rfl
theorem sX6_requireHead : Cond.selects RX6 yX6_requireHead yX6_requireHead ∈ gw := gw_p 6 (by decide +kernel) rfl
abbrev mX6_requireNoChanges : gM := (yX6_requireNoChanges, cX6_requireNoChanges, 1, none, [])
theorem kX6_requireNoChanges : gKn mX6_requireNoChanges 0 := ⟨gw_t 508 (by decide +kernel) rfl, gw_t 1 (by decide +kernel) rfl, by decide +kernel, by decide +kernel⟩
theorem iX6_requireNoChanges : Cond.instanceMethod yX6_requireNoChanges ∈ gw := gw_t 507 (by decide +kernel) rfl
theorem sX6_requireNoChanges : Cond.selects RX6 yX6_requireNoChanges yX6_requireNoChanges ∈ gw := gw_p 7 (by decide +kernel) rfl
abbrev mL_reset : gM := (yL_reset, cL_reset, 4, (some .int), [(0, 9, 12, 13)])
theorem kL_reset : gKn mL_reset 3 := ⟨gw_t 512 (by decide +kernel) rfl, gw_t 0 (by decide +kernel) rfl, by decide +kernel, by decide +kernel⟩
theorem tL_reset : Cond.static yL_reset ∈ gw := gw_t 511 (by decide +kernel) rfl
abbrev mX6_reset : gM := (yX6_reset, cX6_reset, 3, (some .int), [])
theorem kX6_reset : gKn mX6_reset 1 := ⟨gw_t 516 (by decide +kernel) rfl, gw_t 1 (by decide +kernel) rfl, by decide +kernel, by decide +kernel⟩
theorem iX6_reset : Cond.instanceMethod yX6_reset ∈ gw := gw_t 514 (by decide +kernel) rfl
theorem sX6_reset : Cond.selects RX6 yX6_reset yX6_reset ∈ gw := gw_t 515 (by decide +kernel) rfl
abbrev mX6_requireCommit : gM := (yX6_requireCommit, cX6_requireCommit, 2, none, [])
theorem kX6_requireCommit : gKn mX6_requireCommit 1 := ⟨gw_t 520 (by decide +kernel) rfl, gw_t 1 (by decide +kernel) rfl, by decide +kernel, by decide +kernel⟩
theorem iX6_requireCommit : Cond.instanceMethod yX6_requireCommit ∈ gw := gw_t 519 (by decide +kernel) rfl
theorem sX6_requireCommit : Cond.selects RX6 yX6_requireCommit yX6_requireCommit ∈ gw := gw_p 8 (by decide +kernel) rfl
abbrev mL_merge : gM := (yL_merge, cL_merge, 4, (some .int), [(0, 9, 12, 13), (0, 9, 15, 21), (0, 9, 18, 26), (0, 9, 21, 47)])
theorem kL_merge : gKn mL_merge 3 := ⟨gw_t 525 (by decide +kernel) rfl, gw_t 0 (by decide +kernel) rfl, by decide +kernel, by decide +kernel⟩
theorem tL_merge : Cond.static yL_merge ∈ gw := gw_t 524 (by decide +kernel) rfl
abbrev mX6_merge : gM := (yX6_merge, cX6_merge, 5, (some .int), [])
theorem kX6_merge : gKn mX6_merge 1 := ⟨gw_t 530 (by decide +kernel) rfl, gw_t 1 (by decide +kernel) rfl, by decide +kernel, by decide +kernel⟩
theorem iX6_merge : Cond.instanceMethod yX6_merge ∈ gw := gw_t 528 (by decide +kernel) rfl
theorem sX6_merge : Cond.selects RX6 yX6_merge yX6_merge ∈ gw := gw_t 529 (by decide +kernel) rfl
abbrev mX1_contains : gM := (yX1_contains, cX1_contains, 3, (some .boolean), [])
theorem kX1_contains : gKn mX1_contains 2 := ⟨gw_t 534 (by decide +kernel) rfl, gw_t 2 (by decide +kernel) rfl, by decide +kernel, by decide +kernel⟩
theorem iX1_contains : Cond.instanceMethod yX1_contains ∈ gw := gw_t 532 (by decide +kernel) rfl
theorem sX1_contains : Cond.selects RX1 yX1_contains yX1_contains ∈ gw := gw_t 533 (by decide +kernel) rfl
abbrev mX1_isIn : gM := (yX1_isIn, cX1_isIn, 4, (some .boolean), [])
theorem kX1_isIn : gKn mX1_isIn 2 := ⟨gw_t 538 (by decide +kernel) rfl, gw_t 2 (by decide +kernel) rfl, by decide +kernel, by decide +kernel⟩
theorem iX1_isIn : Cond.instanceMethod yX1_isIn ∈ gw := gw_t 537 (by decide +kernel) rfl
theorem sX1_isIn : Cond.selects RX1 yX1_isIn yX1_isIn ∈ gw := gw_p 9 (by decide +kernel) rfl
abbrev mX6_recordMerge : gM := (yX6_recordMerge, cX6_recordMerge, 3, (some .int), [])
theorem kX6_recordMerge : gKn mX6_recordMerge 2 := ⟨gw_t 543 (by decide +kernel) rfl, gw_t 1 (by decide +kernel) rfl, by decide +kernel, by decide +kernel⟩
theorem iX6_recordMerge : Cond.instanceMethod yX6_recordMerge ∈ gw := gw_t 542 (by decide +kernel) rfl
theorem sX6_recordMerge : Cond.selects RX6 yX6_recordMerge yX6_recordMerge ∈ gw := gw_p 10 (by decide +kernel) rfl
abbrev mX1_bestBase : gM := (yX1_bestBase, cX1_bestBase, 6, (some .int), [])
theorem kX1_bestBase : gKn mX1_bestBase 2 := ⟨gw_t 547 (by decide +kernel) rfl, gw_t 2 (by decide +kernel) rfl, by decide +kernel, by decide +kernel⟩
theorem iX1_bestBase : Cond.instanceMethod yX1_bestBase ∈ gw := gw_t 545 (by decide +kernel) rfl
theorem sX1_bestBase : Cond.selects RX1 yX1_bestBase yX1_bestBase ∈ gw := gw_t 546 (by decide +kernel) rfl
abbrev mX5_run : gM := (yX5_run, cX5_run, 6, (some .int), [])
theorem kX5_run : gKn mX5_run 4 := ⟨gw_t 551 (by decide +kernel) rfl, gw_t 4 (by decide +kernel) rfl, by decide +kernel, by decide +kernel⟩
theorem iX5_run : Cond.instanceMethod yX5_run ∈ gw := gw_t 549 (by decide +kernel) rfl
theorem sX5_run : Cond.selects RX5 yX5_run yX5_run ∈ gw := gw_t 550 (by decide +kernel) rfl
abbrev mX0_run : gM := (yX0_run, cX0_run, 4, none, [])
theorem kX0_run : gKn mX0_run 2 := ⟨gw_t 556 (by decide +kernel) rfl, gw_t 5 (by decide +kernel) rfl, by decide +kernel, by decide +kernel⟩
theorem iX0_run : Cond.instanceMethod yX0_run ∈ gw := gw_t 554 (by decide +kernel) rfl
theorem sX0_run : Cond.selects RX0 yX0_run yX0_run ∈ gw := gw_t 555 (by decide +kernel) rfl
abbrev mX0_takeMoves : gM := (yX0_takeMoves, cX0_takeMoves, 4, none, [])
theorem kX0_takeMoves : gKn mX0_takeMoves 1 := ⟨gw_t 561 (by decide +kernel) rfl, gw_t 5 (by decide +kernel) rfl, by decide +kernel, by decide +kernel⟩
theorem iX0_takeMoves : Cond.instanceMethod yX0_takeMoves ∈ gw := gw_t 560 (by decide +kernel) rfl
theorem sX0_takeMoves : Cond.selects RX0 yX0_takeMoves yX0_takeMoves ∈ gw := gw_p 11 (by decide +kernel) rfl
abbrev mX0_isFreeToLeave : gM := (yX0_isFreeToLeave, cX0_isFreeToLeave, 2, (some .boolean), [])
theorem kX0_isFreeToLeave : gKn mX0_isFreeToLeave 1 := ⟨gw_t 565 (by decide +kernel) rfl, gw_t 5 (by decide +kernel) rfl, by decide +kernel, by decide +kernel⟩
theorem iX0_isFreeToLeave : Cond.instanceMethod yX0_isFreeToLeave ∈ gw := gw_t 564 (by decide +kernel) rfl
theorem sX0_isFreeToLeave : Cond.selects RX0 yX0_isFreeToLeave yX0_isFreeToLeave ∈ gw := gw_p 12 (by decide +kernel) rfl
abbrev mX0_target : gM := (yX0_target, cX0_target, 2, (some .int), [])
theorem kX0_target : gKn mX0_target 1 := ⟨gw_t 570 (by decide +kernel) rfl, gw_t 5 (by decide +kernel) rfl, by decide +kernel, by decide +kernel⟩
theorem iX0_target : Cond.instanceMethod yX0_target ∈ gw := gw_t 568 (by decide +kernel) rfl
theorem sX0_target : Cond.selects RX0 yX0_target yX0_target ∈ gw := gw_t 569 (by decide +kernel) rfl
abbrev mX0_isFreeToCome : gM := (yX0_isFreeToCome, cX0_isFreeToCome, 2, (some .boolean), [])
theorem kX0_isFreeToCome : gKn mX0_isFreeToCome 1 := ⟨gw_t 574 (by decide +kernel) rfl, gw_t 5 (by decide +kernel) rfl, by decide +kernel, by decide +kernel⟩
theorem iX0_isFreeToCome : Cond.instanceMethod yX0_isFreeToCome ∈ gw := gw_t 573 (by decide +kernel) rfl
theorem sX0_isFreeToCome : Cond.selects RX0 yX0_isFreeToCome yX0_isFreeToCome ∈ gw := gw_p 13 (by decide +kernel) rfl
abbrev mX0_source : gM := (yX0_source, cX0_source, 2, (some .int), [])
theorem kX0_source : gKn mX0_source 1 := ⟨gw_t 578 (by decide +kernel) rfl, gw_t 5 (by decide +kernel) rfl, by decide +kernel, by decide +kernel⟩
theorem iX0_source : Cond.instanceMethod yX0_source ∈ gw := gw_t 577 (by decide +kernel) rfl
theorem sX0_source : Cond.selects RX0 yX0_source yX0_source ∈ gw := gw_p 14 (by decide +kernel) rfl
abbrev mX0_contentBefore : gM := (yX0_contentBefore, cX0_contentBefore, 2, (some .int), [])
theorem kX0_contentBefore : gKn mX0_contentBefore 1 := ⟨gw_t 584 (by decide +kernel) rfl, gw_t 5 (by decide +kernel) rfl, by decide +kernel, by decide +kernel⟩
theorem iX0_contentBefore : Cond.instanceMethod yX0_contentBefore ∈ gw := gw_t 582 (by decide +kernel) rfl
theorem sX0_contentBefore : Cond.selects RX0 yX0_contentBefore yX0_contentBefore ∈ gw := gw_t 583 (by decide +kernel) rfl
abbrev mX5_follow : gM := (yX5_follow, cX5_follow, 6, none, [])
theorem kX5_follow : gKn mX5_follow 1 := ⟨gw_t 588 (by decide +kernel) rfl, gw_t 4 (by decide +kernel) rfl, by decide +kernel, by decide +kernel⟩
theorem iX5_follow : Cond.instanceMethod yX5_follow ∈ gw := gw_t 587 (by decide +kernel) rfl
theorem sX5_follow : Cond.selects RX5 yX5_follow yX5_follow ∈ gw := gw_p 15 (by decide +kernel) rfl
abbrev mX0_placeOf : gM := (yX0_placeOf, cX0_placeOf, 2, (some .int), [])
theorem kX0_placeOf : gKn mX0_placeOf 1 := ⟨gw_t 592 (by decide +kernel) rfl, gw_t 5 (by decide +kernel) rfl, by decide +kernel, by decide +kernel⟩
theorem iX0_placeOf : Cond.instanceMethod yX0_placeOf ∈ gw := gw_t 590 (by decide +kernel) rfl
theorem sX0_placeOf : Cond.selects RX0 yX0_placeOf yX0_placeOf ∈ gw := gw_t 591 (by decide +kernel) rfl
abbrev mX0_isNowhereOrUnchanged : gM := (yX0_isNowhereOrUnchanged, cX0_isNowhereOrUnchanged, 2, (some .boolean), [])
theorem kX0_isNowhereOrUnchanged : gKn mX0_isNowhereOrUnchanged 1 := ⟨gw_t 596 (by decide +kernel) rfl, gw_t 5 (by decide +kernel) rfl, by decide +kernel, by decide +kernel⟩
theorem iX0_isNowhereOrUnchanged : Cond.instanceMethod yX0_isNowhereOrUnchanged ∈ gw := gw_t 594 (by decide +kernel) rfl
theorem sX0_isNowhereOrUnchanged : Cond.selects RX0 yX0_isNowhereOrUnchanged yX0_isNowhereOrUnchanged ∈ gw := gw_t 595 (by decide +kernel) rfl
abbrev mX2_changed : gM := (yX2_changed, cX2_changed, 3, (some .int), [])
theorem kX2_changed : gKn mX2_changed 3 := ⟨gw_t 600 (by decide +kernel) rfl, gw_t 18 (by decide +kernel) rfl, by decide +kernel, by decide +kernel⟩
theorem tX2_changed : Cond.static yX2_changed ∈ gw := gw_t 599 (by decide +kernel) rfl
abbrev mX0_contentAfter : gM := (yX0_contentAfter, cX0_contentAfter, 2, (some .int), [])
theorem kX0_contentAfter : gKn mX0_contentAfter 1 := ⟨gw_t 604 (by decide +kernel) rfl, gw_t 5 (by decide +kernel) rfl, by decide +kernel, by decide +kernel⟩
theorem iX0_contentAfter : Cond.instanceMethod yX0_contentAfter ∈ gw := gw_t 602 (by decide +kernel) rfl
theorem sX0_contentAfter : Cond.selects RX0 yX0_contentAfter yX0_contentAfter ∈ gw := gw_t 603 (by decide +kernel) rfl
abbrev mX2_mergeContents : gM := (yX2_mergeContents, cX2_mergeContents, 10, (some .int), [])
theorem kX2_mergeContents : gKn mX2_mergeContents 3 := ⟨gw_t 607 (by decide +kernel) rfl, gw_t 18 (by decide +kernel) rfl, by decide +kernel, by decide +kernel⟩
theorem tX2_mergeContents : Cond.static yX2_mergeContents ∈ gw := gw_t 606 (by decide +kernel) rfl
abbrev mX5_arrive : gM := (yX5_arrive, cX5_arrive, 3, none, [])
theorem kX5_arrive : gKn mX5_arrive 2 := ⟨gw_t 612 (by decide +kernel) rfl, gw_t 4 (by decide +kernel) rfl, by decide +kernel, by decide +kernel⟩
theorem iX5_arrive : Cond.instanceMethod yX5_arrive ∈ gw := gw_t 611 (by decide +kernel) rfl
theorem sX5_arrive : Cond.selects RX5 yX5_arrive yX5_arrive ∈ gw := gw_p 16 (by decide +kernel) rfl
abbrev mX5_bringNewFiles : gM := (yX5_bringNewFiles, cX5_bringNewFiles, 4, none, [])
theorem kX5_bringNewFiles : gKn mX5_bringNewFiles 1 := ⟨gw_t 616 (by decide +kernel) rfl, gw_t 4 (by decide +kernel) rfl, by decide +kernel, by decide +kernel⟩
theorem iX5_bringNewFiles : Cond.instanceMethod yX5_bringNewFiles ∈ gw := gw_t 615 (by decide +kernel) rfl
theorem sX5_bringNewFiles : Cond.selects RX5 yX5_bringNewFiles yX5_bringNewFiles ∈ gw := gw_p 17 (by decide +kernel) rfl
abbrev mX0_newContentAt : gM := (yX0_newContentAt, cX0_newContentAt, 2, (some .int), [])
theorem kX0_newContentAt : gKn mX0_newContentAt 1 := ⟨gw_t 620 (by decide +kernel) rfl, gw_t 5 (by decide +kernel) rfl, by decide +kernel, by decide +kernel⟩
theorem iX0_newContentAt : Cond.instanceMethod yX0_newContentAt ∈ gw := gw_t 618 (by decide +kernel) rfl
theorem sX0_newContentAt : Cond.selects RX0 yX0_newContentAt yX0_newContentAt ∈ gw := gw_t 619 (by decide +kernel) rfl
abbrev mX5_countCrowdedPaths : gM := (yX5_countCrowdedPaths, cX5_countCrowdedPaths, 3, (some .int), [])
theorem kX5_countCrowdedPaths : gKn mX5_countCrowdedPaths 0 := ⟨gw_t 624 (by decide +kernel) rfl, gw_t 4 (by decide +kernel) rfl, by decide +kernel, by decide +kernel⟩
theorem iX5_countCrowdedPaths : Cond.instanceMethod yX5_countCrowdedPaths ∈ gw := gw_t 623 (by decide +kernel) rfl
theorem sX5_countCrowdedPaths : Cond.selects RX5 yX5_countCrowdedPaths yX5_countCrowdedPaths ∈ gw := gw_p 18 (by decide +kernel) rfl
abbrev mX5_merged : gM := (yX5_merged, cX5_merged, 1, (some (.object "ForkHall$Tree")), [])
theorem kX5_merged : gKn mX5_merged 0 := ⟨gw_t 628 (by decide +kernel) rfl, gw_t 4 (by decide +kernel) rfl, by decide +kernel, by decide +kernel⟩
theorem iX5_merged : Cond.instanceMethod yX5_merged ∈ gw := gw_t 626 (by decide +kernel) rfl
theorem sX5_merged : Cond.selects RX5 yX5_merged yX5_merged ∈ gw := gw_t 627 (by decide +kernel) rfl
abbrev mL_putOnto : gM := (yL_putOnto, cL_putOnto, 4, (some .int), [(0, 9, 12, 13), (0, 9, 15, 21), (0, 9, 18, 26), (0, 9, 21, 47)])
theorem kL_putOnto : gKn mL_putOnto 3 := ⟨gw_t 647 (by decide +kernel) rfl, gw_t 0 (by decide +kernel) rfl, by decide +kernel, by decide +kernel⟩
theorem tL_putOnto : Cond.static yL_putOnto ∈ gw := gw_t 646 (by decide +kernel) rfl
abbrev mX6_putOnto : gM := (yX6_putOnto, cX6_putOnto, 7, (some .int), [])
theorem kX6_putOnto : gKn mX6_putOnto 1 := ⟨gw_t 651 (by decide +kernel) rfl, gw_t 1 (by decide +kernel) rfl, by decide +kernel, by decide +kernel⟩
theorem iX6_putOnto : Cond.instanceMethod yX6_putOnto ∈ gw := gw_t 649 (by decide +kernel) rfl
theorem sX6_putOnto : Cond.selects RX6 yX6_putOnto yX6_putOnto ∈ gw := gw_t 650 (by decide +kernel) rfl
abbrev mX6_listCommitsNotIn : gM := (yX6_listCommitsNotIn, cX6_listCommitsNotIn, 5, (some .int), [])
theorem kX6_listCommitsNotIn : gKn mX6_listCommitsNotIn 2 := ⟨gw_t 656 (by decide +kernel) rfl, gw_t 1 (by decide +kernel) rfl, by decide +kernel, by decide +kernel⟩
theorem iX6_listCommitsNotIn : Cond.instanceMethod yX6_listCommitsNotIn ∈ gw := gw_t 655 (by decide +kernel) rfl
theorem sX6_listCommitsNotIn : Cond.selects RX6 yX6_listCommitsNotIn yX6_listCommitsNotIn ∈ gw := gw_p 19 (by decide +kernel) rfl
abbrev mX6_applyListed : gM := (yX6_applyListed, cX6_applyListed, 6, (some .int), [])
theorem kX6_applyListed : gKn mX6_applyListed 2 := ⟨gw_t 661 (by decide +kernel) rfl, gw_t 1 (by decide +kernel) rfl, by decide +kernel, by decide +kernel⟩
theorem iX6_applyListed : Cond.instanceMethod yX6_applyListed ∈ gw := gw_t 660 (by decide +kernel) rfl
theorem sX6_applyListed : Cond.selects RX6 yX6_applyListed yX6_applyListed ∈ gw := gw_p 20 (by decide +kernel) rfl
abbrev mJ9_min_7cf53 : gM := (yJ9_min_7cf53, cJ9_min_7cf53, 2, (some .int), [])
theorem kJ9_min_7cf53 : gKn mJ9_min_7cf53 2 := ⟨gw_t 664 (by decide +kernel) rfl, gw_t 17 (by decide +kernel) rfl, by decide +kernel, by decide +kernel⟩
theorem tJ9_min_7cf53 : Cond.static yJ9_min_7cf53 ∈ gw := gw_t 663 (by decide +kernel) rfl
abbrev mX1_dropBackTo : gM := (yX1_dropBackTo, cX1_dropBackTo, 2, none, [])
theorem kX1_dropBackTo : gKn mX1_dropBackTo 1 := ⟨gw_t 668 (by decide +kernel) rfl, gw_t 2 (by decide +kernel) rfl, by decide +kernel, by decide +kernel⟩
theorem iX1_dropBackTo : Cond.instanceMethod yX1_dropBackTo ∈ gw := gw_t 666 (by decide +kernel) rfl
theorem sX1_dropBackTo : Cond.selects RX1 yX1_dropBackTo yX1_dropBackTo ∈ gw := gw_t 667 (by decide +kernel) rfl
abbrev mL_head : gM := (yL_head, cL_head, 4, (some .int), [(0, 9, 12, 13), (0, 9, 15, 21)])
theorem kL_head : gKn mL_head 3 := ⟨gw_t 671 (by decide +kernel) rfl, gw_t 0 (by decide +kernel) rfl, by decide +kernel, by decide +kernel⟩
theorem tL_head : Cond.static yL_head ∈ gw := gw_t 670 (by decide +kernel) rfl
abbrev mX6_head : gM := (yX6_head, cX6_head, 2, (some .int), [])
theorem kX6_head : gKn mX6_head 1 := ⟨gw_t 675 (by decide +kernel) rfl, gw_t 1 (by decide +kernel) rfl, by decide +kernel, by decide +kernel⟩
theorem iX6_head : Cond.instanceMethod yX6_head ∈ gw := gw_t 673 (by decide +kernel) rfl
theorem sX6_head : Cond.selects RX6 yX6_head yX6_head ∈ gw := gw_t 674 (by decide +kernel) rfl
abbrev mL_contentIn : gM := (yL_contentIn, cL_contentIn, 5, (some .int), [(0, 10, 13, 13), (0, 10, 17, 21)])
theorem kL_contentIn : gKn mL_contentIn 4 := ⟨gw_t 678 (by decide +kernel) rfl, gw_t 0 (by decide +kernel) rfl, by decide +kernel, by decide +kernel⟩
theorem tL_contentIn : Cond.static yL_contentIn ∈ gw := gw_t 677 (by decide +kernel) rfl
abbrev mX6_contentIn : gM := (yX6_contentIn, cX6_contentIn, 3, (some .int), [])
theorem kX6_contentIn : gKn mX6_contentIn 2 := ⟨gw_t 682 (by decide +kernel) rfl, gw_t 1 (by decide +kernel) rfl, by decide +kernel, by decide +kernel⟩
theorem iX6_contentIn : Cond.instanceMethod yX6_contentIn ∈ gw := gw_t 680 (by decide +kernel) rfl
theorem sX6_contentIn : Cond.selects RX6 yX6_contentIn yX6_contentIn ∈ gw := gw_t 681 (by decide +kernel) rfl
abbrev mL_parentOf : gM := (yL_parentOf, cL_parentOf, 5, (some .int), [(0, 10, 13, 13), (0, 10, 17, 21)])
theorem kL_parentOf : gKn mL_parentOf 4 := ⟨gw_t 685 (by decide +kernel) rfl, gw_t 0 (by decide +kernel) rfl, by decide +kernel, by decide +kernel⟩
theorem tL_parentOf : Cond.static yL_parentOf ∈ gw := gw_t 684 (by decide +kernel) rfl
abbrev mX6_parentOf : gM := (yX6_parentOf, cX6_parentOf, 4, (some .int), [])
theorem kX6_parentOf : gKn mX6_parentOf 2 := ⟨gw_t 689 (by decide +kernel) rfl, gw_t 1 (by decide +kernel) rfl, by decide +kernel, by decide +kernel⟩
theorem iX6_parentOf : Cond.instanceMethod yX6_parentOf ∈ gw := gw_t 687 (by decide +kernel) rfl
theorem sX6_parentOf : Cond.selects RX6 yX6_parentOf yX6_parentOf ∈ gw := gw_t 688 (by decide +kernel) rfl
abbrev mL_generation : gM := (yL_generation, cL_generation, 4, (some .int), [(0, 9, 12, 13)])
theorem kL_generation : gKn mL_generation 3 := ⟨gw_t 695 (by decide +kernel) rfl, gw_t 0 (by decide +kernel) rfl, by decide +kernel, by decide +kernel⟩
theorem tL_generation : Cond.static yL_generation ∈ gw := gw_t 694 (by decide +kernel) rfl
abbrev mX6_generation : gM := (yX6_generation, cX6_generation, 2, (some .int), [])
theorem kX6_generation : gKn mX6_generation 1 := ⟨gw_t 699 (by decide +kernel) rfl, gw_t 1 (by decide +kernel) rfl, by decide +kernel, by decide +kernel⟩
theorem iX6_generation : Cond.instanceMethod yX6_generation ∈ gw := gw_t 697 (by decide +kernel) rfl
theorem sX6_generation : Cond.selects RX6 yX6_generation yX6_generation ∈ gw := gw_t 698 (by decide +kernel) rfl
abbrev mL_isAncestor : gM := (yL_isAncestor, cL_isAncestor, 5, (some .int), [(0, 17, 20, 13)])
theorem kL_isAncestor : gKn mL_isAncestor 4 := ⟨gw_t 703 (by decide +kernel) rfl, gw_t 0 (by decide +kernel) rfl, by decide +kernel, by decide +kernel⟩
theorem tL_isAncestor : Cond.static yL_isAncestor ∈ gw := gw_t 702 (by decide +kernel) rfl
abbrev mX6_isAncestor : gM := (yX6_isAncestor, cX6_isAncestor, 3, (some .boolean), [])
theorem kX6_isAncestor : gKn mX6_isAncestor 2 := ⟨gw_t 707 (by decide +kernel) rfl, gw_t 1 (by decide +kernel) rfl, by decide +kernel, by decide +kernel⟩
theorem iX6_isAncestor : Cond.instanceMethod yX6_isAncestor ∈ gw := gw_t 705 (by decide +kernel) rfl
theorem sX6_isAncestor : Cond.selects RX6 yX6_isAncestor yX6_isAncestor ∈ gw := gw_t 706 (by decide +kernel) rfl
abbrev mL_isAncestorByWalking : gM := (yL_isAncestorByWalking, cL_isAncestorByWalking, 5, (some .int), [(0, 17, 20, 13)])
theorem kL_isAncestorByWalking : gKn mL_isAncestorByWalking 4 := ⟨gw_t 710 (by decide +kernel) rfl, gw_t 0 (by decide +kernel) rfl, by decide +kernel, by decide +kernel⟩
theorem tL_isAncestorByWalking : Cond.static yL_isAncestorByWalking ∈ gw := gw_t 709 (by decide +kernel) rfl
abbrev mX6_isAncestorByWalking : gM := (yX6_isAncestorByWalking, cX6_isAncestorByWalking, 3, (some .boolean), [])
theorem kX6_isAncestorByWalking : gKn mX6_isAncestorByWalking 2 := ⟨gw_t 714 (by decide +kernel) rfl, gw_t 1 (by decide +kernel) rfl, by decide +kernel, by decide +kernel⟩
theorem iX6_isAncestorByWalking : Cond.instanceMethod yX6_isAncestorByWalking ∈ gw := gw_t 712 (by decide +kernel) rfl
theorem sX6_isAncestorByWalking : Cond.selects RX6 yX6_isAncestorByWalking yX6_isAncestorByWalking ∈ gw := gw_t 713 (by decide +kernel) rfl
abbrev mX1_walkMeets : gM := (yX1_walkMeets, cX1_walkMeets, 4, (some .boolean), [])
theorem kX1_walkMeets : gKn mX1_walkMeets 2 := ⟨gw_t 718 (by decide +kernel) rfl, gw_t 2 (by decide +kernel) rfl, by decide +kernel, by decide +kernel⟩
theorem iX1_walkMeets : Cond.instanceMethod yX1_walkMeets ∈ gw := gw_t 716 (by decide +kernel) rfl
theorem sX1_walkMeets : Cond.selects RX1 yX1_walkMeets yX1_walkMeets ∈ gw := gw_t 717 (by decide +kernel) rfl
abbrev mX1_clearMarks : gM := (yX1_clearMarks, cX1_clearMarks, 2, none, [])
theorem kX1_clearMarks : gKn mX1_clearMarks 0 := ⟨gw_t 722 (by decide +kernel) rfl, gw_t 2 (by decide +kernel) rfl, by decide +kernel, by decide +kernel⟩
theorem iX1_clearMarks : Cond.instanceMethod yX1_clearMarks ∈ gw := gw_t 721 (by decide +kernel) rfl
theorem sX1_clearMarks : Cond.selects RX1 yX1_clearMarks yX1_clearMarks ∈ gw := gw_p 21 (by decide +kernel) rfl
abbrev mX1_mark : gM := (yX1_mark, cX1_mark, 3, none, [])
theorem kX1_mark : gKn mX1_mark 2 := ⟨gw_t 726 (by decide +kernel) rfl, gw_t 2 (by decide +kernel) rfl, by decide +kernel, by decide +kernel⟩
theorem iX1_mark : Cond.instanceMethod yX1_mark ∈ gw := gw_t 725 (by decide +kernel) rfl
theorem sX1_mark : Cond.selects RX1 yX1_mark yX1_mark ∈ gw := gw_p 22 (by decide +kernel) rfl
abbrev mX1_markParents : gM := (yX1_markParents, cX1_markParents, 2, none, [])
theorem kX1_markParents : gKn mX1_markParents 1 := ⟨gw_t 730 (by decide +kernel) rfl, gw_t 2 (by decide +kernel) rfl, by decide +kernel, by decide +kernel⟩
theorem iX1_markParents : Cond.instanceMethod yX1_markParents ∈ gw := gw_t 729 (by decide +kernel) rfl
theorem sX1_markParents : Cond.selects RX1 yX1_markParents yX1_markParents ∈ gw := gw_p 23 (by decide +kernel) rfl
abbrev mX1_marksAt : gM := (yX1_marksAt, cX1_marksAt, 2, (some .int), [])
theorem kX1_marksAt : gKn mX1_marksAt 1 := ⟨gw_t 734 (by decide +kernel) rfl, gw_t 2 (by decide +kernel) rfl, by decide +kernel, by decide +kernel⟩
theorem iX1_marksAt : Cond.instanceMethod yX1_marksAt ∈ gw := gw_t 733 (by decide +kernel) rfl
theorem sX1_marksAt : Cond.selects RX1 yX1_marksAt yX1_marksAt ∈ gw := gw_p 24 (by decide +kernel) rfl
abbrev mL_base : gM := (yL_base, cL_base, 5, (some .int), [(0, 10, 13, 13)])
theorem kL_base : gKn mL_base 4 := ⟨gw_t 737 (by decide +kernel) rfl, gw_t 0 (by decide +kernel) rfl, by decide +kernel, by decide +kernel⟩
theorem tL_base : Cond.static yL_base ∈ gw := gw_t 736 (by decide +kernel) rfl
abbrev mX6_base : gM := (yX6_base, cX6_base, 3, (some .int), [])
theorem kX6_base : gKn mX6_base 2 := ⟨gw_t 741 (by decide +kernel) rfl, gw_t 1 (by decide +kernel) rfl, by decide +kernel, by decide +kernel⟩
theorem iX6_base : Cond.instanceMethod yX6_base ∈ gw := gw_t 739 (by decide +kernel) rfl
theorem sX6_base : Cond.selects RX6 yX6_base yX6_base ∈ gw := gw_t 740 (by decide +kernel) rfl
abbrev mL_baseByWalking : gM := (yL_baseByWalking, cL_baseByWalking, 5, (some .int), [(0, 10, 13, 13)])
theorem kL_baseByWalking : gKn mL_baseByWalking 4 := ⟨gw_t 744 (by decide +kernel) rfl, gw_t 0 (by decide +kernel) rfl, by decide +kernel, by decide +kernel⟩
theorem tL_baseByWalking : Cond.static yL_baseByWalking ∈ gw := gw_t 743 (by decide +kernel) rfl
abbrev mX6_baseByWalking : gM := (yX6_baseByWalking, cX6_baseByWalking, 3, (some .int), [])
theorem kX6_baseByWalking : gKn mX6_baseByWalking 2 := ⟨gw_t 748 (by decide +kernel) rfl, gw_t 1 (by decide +kernel) rfl, by decide +kernel, by decide +kernel⟩
theorem iX6_baseByWalking : Cond.instanceMethod yX6_baseByWalking ∈ gw := gw_t 746 (by decide +kernel) rfl
theorem sX6_baseByWalking : Cond.selects RX6 yX6_baseByWalking yX6_baseByWalking ∈ gw := gw_t 747 (by decide +kernel) rfl
abbrev mX1_walkToBestBase : gM := (yX1_walkToBestBase, cX1_walkToBestBase, 4, (some .int), [])
theorem kX1_walkToBestBase : gKn mX1_walkToBestBase 2 := ⟨gw_t 752 (by decide +kernel) rfl, gw_t 2 (by decide +kernel) rfl, by decide +kernel, by decide +kernel⟩
theorem iX1_walkToBestBase : Cond.instanceMethod yX1_walkToBestBase ∈ gw := gw_t 750 (by decide +kernel) rfl
theorem sX1_walkToBestBase : Cond.selects RX1 yX1_walkToBestBase yX1_walkToBestBase ∈ gw := gw_t 751 (by decide +kernel) rfl
abbrev mL_bases : gM := (yL_bases, cL_bases, 5, (some .int), [(0, 10, 13, 13)])
theorem kL_bases : gKn mL_bases 4 := ⟨gw_t 755 (by decide +kernel) rfl, gw_t 0 (by decide +kernel) rfl, by decide +kernel, by decide +kernel⟩
theorem tL_bases : Cond.static yL_bases ∈ gw := gw_t 754 (by decide +kernel) rfl
abbrev mX6_bases : gM := (yX6_bases, cX6_bases, 3, (some .int), [])
theorem kX6_bases : gKn mX6_bases 2 := ⟨gw_t 759 (by decide +kernel) rfl, gw_t 1 (by decide +kernel) rfl, by decide +kernel, by decide +kernel⟩
theorem iX6_bases : Cond.instanceMethod yX6_bases ∈ gw := gw_t 757 (by decide +kernel) rfl
theorem sX6_bases : Cond.selects RX6 yX6_bases yX6_bases ∈ gw := gw_t 758 (by decide +kernel) rfl
abbrev mX1_countBases : gM := (yX1_countBases, cX1_countBases, 8, (some .int), [])
theorem kX1_countBases : gKn mX1_countBases 2 := ⟨gw_t 763 (by decide +kernel) rfl, gw_t 2 (by decide +kernel) rfl, by decide +kernel, by decide +kernel⟩
theorem iX1_countBases : Cond.instanceMethod yX1_countBases ∈ gw := gw_t 761 (by decide +kernel) rfl
theorem sX1_countBases : Cond.selects RX1 yX1_countBases yX1_countBases ∈ gw := gw_t 762 (by decide +kernel) rfl
abbrev mJ13_bitCount_95d88 : gM := (yJ13_bitCount_95d88, cJ13_bitCount_95d88, 2, (some .int), [])
theorem kJ13_bitCount_95d88 : gKn mJ13_bitCount_95d88 1 := ⟨gw_t 767 (by decide +kernel) rfl, gw_t 20 (by decide +kernel) rfl, by decide +kernel, by decide +kernel⟩
theorem tJ13_bitCount_95d88 : Cond.static yJ13_bitCount_95d88 ∈ gw := gw_t 766 (by decide +kernel) rfl
abbrev mL_movedTo : gM := (yL_movedTo, cL_movedTo, 6, (some .int), [(0, 12, 15, 13), (0, 12, 19, 21)])
theorem kL_movedTo : gKn mL_movedTo 5 := ⟨gw_t 773 (by decide +kernel) rfl, gw_t 0 (by decide +kernel) rfl, by decide +kernel, by decide +kernel⟩
theorem tL_movedTo : Cond.static yL_movedTo ∈ gw := gw_t 772 (by decide +kernel) rfl
abbrev mX6_movedTo : gM := (yX6_movedTo, cX6_movedTo, 5, (some .int), [])
theorem kX6_movedTo : gKn mX6_movedTo 3 := ⟨gw_t 777 (by decide +kernel) rfl, gw_t 1 (by decide +kernel) rfl, by decide +kernel, by decide +kernel⟩
theorem iX6_movedTo : Cond.instanceMethod yX6_movedTo ∈ gw := gw_t 775 (by decide +kernel) rfl
theorem sX6_movedTo : Cond.selects RX6 yX6_movedTo yX6_movedTo ∈ gw := gw_t 776 (by decide +kernel) rfl
abbrev mX5_moveBetween : gM := (yX5_moveBetween, cX5_moveBetween, 4, (some .int), [])
theorem kX5_moveBetween : gKn mX5_moveBetween 3 := ⟨gw_t 781 (by decide +kernel) rfl, gw_t 4 (by decide +kernel) rfl, by decide +kernel, by decide +kernel⟩
theorem iX5_moveBetween : Cond.instanceMethod yX5_moveBetween ∈ gw := gw_t 779 (by decide +kernel) rfl
theorem sX5_moveBetween : Cond.selects RX5 yX5_moveBetween yX5_moveBetween ∈ gw := gw_t 780 (by decide +kernel) rfl
abbrev mL_conflicts : gM := (yL_conflicts, cL_conflicts, 5, (some .int), [(0, 10, 13, 13)])
theorem kL_conflicts : gKn mL_conflicts 4 := ⟨gw_t 786 (by decide +kernel) rfl, gw_t 0 (by decide +kernel) rfl, by decide +kernel, by decide +kernel⟩
theorem tL_conflicts : Cond.static yL_conflicts ∈ gw := gw_t 785 (by decide +kernel) rfl
abbrev mX6_conflicts : gM := (yX6_conflicts, cX6_conflicts, 3, (some .int), [])
theorem kX6_conflicts : gKn mX6_conflicts 2 := ⟨gw_t 790 (by decide +kernel) rfl, gw_t 1 (by decide +kernel) rfl, by decide +kernel, by decide +kernel⟩
theorem iX6_conflicts : Cond.instanceMethod yX6_conflicts ∈ gw := gw_t 788 (by decide +kernel) rfl
theorem sX6_conflicts : Cond.selects RX6 yX6_conflicts yX6_conflicts ∈ gw := gw_t 789 (by decide +kernel) rfl
abbrev mL_lastChange : gM := (yL_lastChange, cL_lastChange, 4, (some .int), [(0, 9, 12, 13), (0, 9, 15, 21)])
theorem kL_lastChange : gKn mL_lastChange 3 := ⟨gw_t 793 (by decide +kernel) rfl, gw_t 0 (by decide +kernel) rfl, by decide +kernel, by decide +kernel⟩
theorem tL_lastChange : Cond.static yL_lastChange ∈ gw := gw_t 792 (by decide +kernel) rfl
abbrev mX6_lastChange : gM := (yX6_lastChange, cX6_lastChange, 3, (some .int), [])
theorem kX6_lastChange : gKn mX6_lastChange 1 := ⟨gw_t 797 (by decide +kernel) rfl, gw_t 1 (by decide +kernel) rfl, by decide +kernel, by decide +kernel⟩
theorem iX6_lastChange : Cond.instanceMethod yX6_lastChange ∈ gw := gw_t 795 (by decide +kernel) rfl
theorem sX6_lastChange : Cond.selects RX6 yX6_lastChange yX6_lastChange ∈ gw := gw_t 796 (by decide +kernel) rfl
abbrev mX1_lastChangeAt : gM := (yX1_lastChangeAt, cX1_lastChangeAt, 6, (some .int), [])
theorem kX1_lastChangeAt : gKn mX1_lastChangeAt 2 := ⟨gw_t 801 (by decide +kernel) rfl, gw_t 2 (by decide +kernel) rfl, by decide +kernel, by decide +kernel⟩
theorem iX1_lastChangeAt : Cond.instanceMethod yX1_lastChangeAt ∈ gw := gw_t 799 (by decide +kernel) rfl
theorem sX1_lastChangeAt : Cond.selects RX1 yX1_lastChangeAt yX1_lastChangeAt ∈ gw := gw_t 800 (by decide +kernel) rfl
abbrev mL_depthOf : gM := (yL_depthOf, cL_depthOf, 4, (some .int), [(0, 9, 12, 21)])
theorem kL_depthOf : gKn mL_depthOf 3 := ⟨gw_t 806 (by decide +kernel) rfl, gw_t 0 (by decide +kernel) rfl, by decide +kernel, by decide +kernel⟩
theorem tL_depthOf : Cond.static yL_depthOf ∈ gw := gw_t 805 (by decide +kernel) rfl
abbrev mX6_depthOf : gM := (yX6_depthOf, cX6_depthOf, 3, (some .int), [])
theorem kX6_depthOf : gKn mX6_depthOf 1 := ⟨gw_t 810 (by decide +kernel) rfl, gw_t 1 (by decide +kernel) rfl, by decide +kernel, by decide +kernel⟩
theorem iX6_depthOf : Cond.instanceMethod yX6_depthOf ∈ gw := gw_t 808 (by decide +kernel) rfl
theorem sX6_depthOf : Cond.selects RX6 yX6_depthOf yX6_depthOf ∈ gw := gw_t 809 (by decide +kernel) rfl
abbrev mX3_depthAt : gM := (yX3_depthAt, cX3_depthAt, 2, (some .int), [])
theorem kX3_depthAt : gKn mX3_depthAt 1 := ⟨gw_t 815 (by decide +kernel) rfl, gw_t 6 (by decide +kernel) rfl, by decide +kernel, by decide +kernel⟩
theorem iX3_depthAt : Cond.instanceMethod yX3_depthAt ∈ gw := gw_t 813 (by decide +kernel) rfl
theorem sX3_depthAt : Cond.selects RX3 yX3_depthAt yX3_depthAt ∈ gw := gw_t 814 (by decide +kernel) rfl
abbrev mX3_hasPlace : gM := (yX3_hasPlace, cX3_hasPlace, 2, (some .boolean), [])
theorem kX3_hasPlace : gKn mX3_hasPlace 1 := ⟨gw_t 819 (by decide +kernel) rfl, gw_t 6 (by decide +kernel) rfl, by decide +kernel, by decide +kernel⟩
theorem iX3_hasPlace : Cond.instanceMethod yX3_hasPlace ∈ gw := gw_t 818 (by decide +kernel) rfl
theorem sX3_hasPlace : Cond.selects RX3 yX3_hasPlace yX3_hasPlace ∈ gw := gw_p 25 (by decide +kernel) rfl
abbrev mL_packedFrom : gM := (yL_packedFrom, cL_packedFrom, 4, (some .int), [(0, 9, 12, 21)])
theorem kL_packedFrom : gKn mL_packedFrom 3 := ⟨gw_t 823 (by decide +kernel) rfl, gw_t 0 (by decide +kernel) rfl, by decide +kernel, by decide +kernel⟩
theorem tL_packedFrom : Cond.static yL_packedFrom ∈ gw := gw_t 822 (by decide +kernel) rfl
abbrev mX6_packedFrom : gM := (yX6_packedFrom, cX6_packedFrom, 3, (some .int), [])
theorem kX6_packedFrom : gKn mX6_packedFrom 1 := ⟨gw_t 827 (by decide +kernel) rfl, gw_t 1 (by decide +kernel) rfl, by decide +kernel, by decide +kernel⟩
theorem iX6_packedFrom : Cond.instanceMethod yX6_packedFrom ∈ gw := gw_t 825 (by decide +kernel) rfl
theorem sX6_packedFrom : Cond.selects RX6 yX6_packedFrom yX6_packedFrom ∈ gw := gw_t 826 (by decide +kernel) rfl
abbrev mX3_sourceAt : gM := (yX3_sourceAt, cX3_sourceAt, 2, (some .int), [])
theorem kX3_sourceAt : gKn mX3_sourceAt 1 := ⟨gw_t 831 (by decide +kernel) rfl, gw_t 6 (by decide +kernel) rfl, by decide +kernel, by decide +kernel⟩
theorem iX3_sourceAt : Cond.instanceMethod yX3_sourceAt ∈ gw := gw_t 829 (by decide +kernel) rfl
theorem sX3_sourceAt : Cond.selects RX3 yX3_sourceAt yX3_sourceAt ∈ gw := gw_t 830 (by decide +kernel) rfl
abbrev mL_packShare : gM := (yL_packShare, cL_packShare, 3, (some .int), [(0, 8, 11, 100)])
theorem kL_packShare : gKn mL_packShare 2 := ⟨gw_t 835 (by decide +kernel) rfl, gw_t 0 (by decide +kernel) rfl, by decide +kernel, by decide +kernel⟩
theorem tL_packShare : Cond.static yL_packShare ∈ gw := gw_t 834 (by decide +kernel) rfl
abbrev mX6_packShare : gM := (yX6_packShare, cX6_packShare, 3, (some .float), [])
theorem kX6_packShare : gKn mX6_packShare 0 := ⟨gw_t 853 (by decide +kernel) rfl, gw_t 1 (by decide +kernel) rfl, by decide +kernel, by decide +kernel⟩
theorem iX6_packShare : Cond.instanceMethod yX6_packShare ∈ gw := gw_t 851 (by decide +kernel) rfl
theorem sX6_packShare : Cond.selects RX6 yX6_packShare yX6_packShare ∈ gw := gw_t 852 (by decide +kernel) rfl
abbrev mX7_init : gM := (yX7_init, cX7_init, 2, none, [])
theorem kX7_init : gKn mX7_init 0 := ⟨gw_t 862 (by decide +kernel) rfl, gw_t 7 (by decide +kernel) rfl, by decide +kernel, by decide +kernel⟩
theorem iX7_init : Cond.instanceMethod yX7_init ∈ gw := gw_t 861 (by decide +kernel) rfl
abbrev mX7_thrown : gM := (yX7_thrown, cX7_thrown, 1, (some .int), [])
theorem kX7_thrown : gKn mX7_thrown 0 := ⟨gw_t 946 (by decide +kernel) rfl, gw_t 7 (by decide +kernel) rfl, by decide +kernel, by decide +kernel⟩
theorem iX7_thrown : Cond.instanceMethod yX7_thrown ∈ gw := gw_t 944 (by decide +kernel) rfl
theorem sX7_thrown : Cond.selects RX7 yX7_thrown yX7_thrown ∈ gw := gw_t 945 (by decide +kernel) rfl
abbrev mX7_write : gM := (yX7_write, cX7_write, 4, (some .int), [])
theorem kX7_write : gKn mX7_write 2 := ⟨gw_t 950 (by decide +kernel) rfl, gw_t 7 (by decide +kernel) rfl, by decide +kernel, by decide +kernel⟩
theorem iX7_write : Cond.instanceMethod yX7_write ∈ gw := gw_t 948 (by decide +kernel) rfl
theorem sX7_write : Cond.selects RX7 yX7_write yX7_write ∈ gw := gw_t 949 (by decide +kernel) rfl
abbrev mX7_isPath : gM := (yX7_isPath, cX7_isPath, 1, (some .boolean), [])
theorem kX7_isPath : gKn mX7_isPath 1 := ⟨gw_t 953 (by decide +kernel) rfl, gw_t 7 (by decide +kernel) rfl, by decide +kernel, by decide +kernel⟩
theorem tX7_isPath : Cond.static yX7_isPath ∈ gw := gw_t 952 (by decide +kernel) rfl
abbrev mX7_in : gM := (yX7_in, cX7_in, 3, (some .boolean), [])
theorem kX7_in : gKn mX7_in 3 := ⟨gw_t 956 (by decide +kernel) rfl, gw_t 7 (by decide +kernel) rfl, by decide +kernel, by decide +kernel⟩
theorem tX7_in : Cond.static yX7_in ∈ gw := gw_t 955 (by decide +kernel) rfl
abbrev mX7_erase : gM := (yX7_erase, cX7_erase, 3, (some .int), [])
theorem kX7_erase : gKn mX7_erase 1 := ⟨gw_t 960 (by decide +kernel) rfl, gw_t 7 (by decide +kernel) rfl, by decide +kernel, by decide +kernel⟩
theorem iX7_erase : Cond.instanceMethod yX7_erase ∈ gw := gw_t 958 (by decide +kernel) rfl
theorem sX7_erase : Cond.selects RX7 yX7_erase yX7_erase ∈ gw := gw_t 959 (by decide +kernel) rfl
abbrev mX7_lacks : gM := (yX7_lacks, cX7_lacks, 2, (some .boolean), [])
theorem kX7_lacks : gKn mX7_lacks 1 := ⟨gw_t 964 (by decide +kernel) rfl, gw_t 7 (by decide +kernel) rfl, by decide +kernel, by decide +kernel⟩
theorem iX7_lacks : Cond.instanceMethod yX7_lacks ∈ gw := gw_t 963 (by decide +kernel) rfl
theorem sX7_lacks : Cond.selects RX7 yX7_lacks yX7_lacks ∈ gw := gw_p 26 (by decide +kernel) rfl
abbrev mX7_move : gM := (yX7_move, cX7_move, 3, (some .int), [])
theorem kX7_move : gKn mX7_move 2 := ⟨gw_t 968 (by decide +kernel) rfl, gw_t 7 (by decide +kernel) rfl, by decide +kernel, by decide +kernel⟩
theorem iX7_move : Cond.instanceMethod yX7_move ∈ gw := gw_t 966 (by decide +kernel) rfl
theorem sX7_move : Cond.selects RX7 yX7_move yX7_move ∈ gw := gw_t 967 (by decide +kernel) rfl
abbrev mX7_raises : gM := (yX7_raises, cX7_raises, 2, (some .int), [])
theorem kX7_raises : gKn mX7_raises 1 := ⟨gw_t 972 (by decide +kernel) rfl, gw_t 7 (by decide +kernel) rfl, by decide +kernel, by decide +kernel⟩
theorem iX7_raises : Cond.instanceMethod yX7_raises ∈ gw := gw_t 971 (by decide +kernel) rfl
theorem sX7_raises : Cond.selects RX7 yX7_raises yX7_raises ∈ gw := gw_p 27 (by decide +kernel) rfl
abbrev mX7_content : gM := (yX7_content, cX7_content, 2, (some .int), [])
theorem kX7_content : gKn mX7_content 1 := ⟨gw_t 976 (by decide +kernel) rfl, gw_t 7 (by decide +kernel) rfl, by decide +kernel, by decide +kernel⟩
theorem iX7_content : Cond.instanceMethod yX7_content ∈ gw := gw_t 974 (by decide +kernel) rfl
theorem sX7_content : Cond.selects RX7 yX7_content yX7_content ∈ gw := gw_t 975 (by decide +kernel) rfl
abbrev mX7_changedPaths : gM := (yX7_changedPaths, cX7_changedPaths, 1, (some .int), [])
theorem kX7_changedPaths : gKn mX7_changedPaths 0 := ⟨gw_t 980 (by decide +kernel) rfl, gw_t 7 (by decide +kernel) rfl, by decide +kernel, by decide +kernel⟩
theorem iX7_changedPaths : Cond.instanceMethod yX7_changedPaths ∈ gw := gw_t 978 (by decide +kernel) rfl
theorem sX7_changedPaths : Cond.selects RX7 yX7_changedPaths yX7_changedPaths ∈ gw := gw_t 979 (by decide +kernel) rfl
abbrev mX7_changed : gM := (yX7_changed, cX7_changed, 3, (some .int), [])
theorem kX7_changed : gKn mX7_changed 0 := ⟨gw_t 984 (by decide +kernel) rfl, gw_t 7 (by decide +kernel) rfl, by decide +kernel, by decide +kernel⟩
theorem iX7_changed : Cond.instanceMethod yX7_changed ∈ gw := gw_t 983 (by decide +kernel) rfl
theorem sX7_changed : Cond.selects RX7 yX7_changed yX7_changed ∈ gw := gw_p 28 (by decide +kernel) rfl
abbrev mX7_commit : gM := (yX7_commit, cX7_commit, 2, (some .int), [])
theorem kX7_commit : gKn mX7_commit 0 := ⟨gw_t 988 (by decide +kernel) rfl, gw_t 7 (by decide +kernel) rfl, by decide +kernel, by decide +kernel⟩
theorem iX7_commit : Cond.instanceMethod yX7_commit ∈ gw := gw_t 986 (by decide +kernel) rfl
theorem sX7_commit : Cond.selects RX7 yX7_commit yX7_commit ∈ gw := gw_t 987 (by decide +kernel) rfl
abbrev mX7_made : gM := (yX7_made, cX7_made, 5, (some .int), [])
theorem kX7_made : gKn mX7_made 3 := ⟨gw_t 992 (by decide +kernel) rfl, gw_t 7 (by decide +kernel) rfl, by decide +kernel, by decide +kernel⟩
theorem iX7_made : Cond.instanceMethod yX7_made ∈ gw := gw_t 991 (by decide +kernel) rfl
theorem sX7_made : Cond.selects RX7 yX7_made yX7_made ∈ gw := gw_p 29 (by decide +kernel) rfl
abbrev mX7_isSame : gM := (yX7_isSame, cX7_isSame, 3, (some .boolean), [])
theorem kX7_isSame : gKn mX7_isSame 2 := ⟨gw_t 995 (by decide +kernel) rfl, gw_t 7 (by decide +kernel) rfl, by decide +kernel, by decide +kernel⟩
theorem tX7_isSame : Cond.static yX7_isSame ∈ gw := gw_t 994 (by decide +kernel) rfl
abbrev mX7_branch : gM := (yX7_branch, cX7_branch, 2, (some .int), [])
theorem kX7_branch : gKn mX7_branch 1 := ⟨gw_t 999 (by decide +kernel) rfl, gw_t 7 (by decide +kernel) rfl, by decide +kernel, by decide +kernel⟩
theorem iX7_branch : Cond.instanceMethod yX7_branch ∈ gw := gw_t 997 (by decide +kernel) rfl
theorem sX7_branch : Cond.selects RX7 yX7_branch yX7_branch ∈ gw := gw_t 998 (by decide +kernel) rfl
abbrev mX7_checkOut : gM := (yX7_checkOut, cX7_checkOut, 2, (some .int), [])
theorem kX7_checkOut : gKn mX7_checkOut 1 := ⟨gw_t 1003 (by decide +kernel) rfl, gw_t 7 (by decide +kernel) rfl, by decide +kernel, by decide +kernel⟩
theorem iX7_checkOut : Cond.instanceMethod yX7_checkOut ∈ gw := gw_t 1001 (by decide +kernel) rfl
theorem sX7_checkOut : Cond.selects RX7 yX7_checkOut yX7_checkOut ∈ gw := gw_t 1002 (by decide +kernel) rfl
abbrev mX7_isNone : gM := (yX7_isNone, cX7_isNone, 2, (some .boolean), [])
theorem kX7_isNone : gKn mX7_isNone 1 := ⟨gw_t 1007 (by decide +kernel) rfl, gw_t 7 (by decide +kernel) rfl, by decide +kernel, by decide +kernel⟩
theorem iX7_isNone : Cond.instanceMethod yX7_isNone ∈ gw := gw_t 1006 (by decide +kernel) rfl
theorem sX7_isNone : Cond.selects RX7 yX7_isNone yX7_isNone ∈ gw := gw_p 30 (by decide +kernel) rfl
abbrev mX7_becomes : gM := (yX7_becomes, cX7_becomes, 3, none, [])
theorem kX7_becomes : gKn mX7_becomes 1 := ⟨gw_t 1011 (by decide +kernel) rfl, gw_t 7 (by decide +kernel) rfl, by decide +kernel, by decide +kernel⟩
theorem iX7_becomes : Cond.instanceMethod yX7_becomes ∈ gw := gw_t 1010 (by decide +kernel) rfl
theorem sX7_becomes : Cond.selects RX7 yX7_becomes yX7_becomes ∈ gw := gw_p 31 (by decide +kernel) rfl
abbrev mX7_reset : gM := (yX7_reset, cX7_reset, 3, (some .int), [])
theorem kX7_reset : gKn mX7_reset 1 := ⟨gw_t 1015 (by decide +kernel) rfl, gw_t 7 (by decide +kernel) rfl, by decide +kernel, by decide +kernel⟩
theorem iX7_reset : Cond.instanceMethod yX7_reset ∈ gw := gw_t 1013 (by decide +kernel) rfl
theorem sX7_reset : Cond.selects RX7 yX7_reset yX7_reset ∈ gw := gw_t 1014 (by decide +kernel) rfl
abbrev mX7_isCommit : gM := (yX7_isCommit, cX7_isCommit, 2, (some .boolean), [])
theorem kX7_isCommit : gKn mX7_isCommit 1 := ⟨gw_t 1019 (by decide +kernel) rfl, gw_t 7 (by decide +kernel) rfl, by decide +kernel, by decide +kernel⟩
theorem iX7_isCommit : Cond.instanceMethod yX7_isCommit ∈ gw := gw_t 1018 (by decide +kernel) rfl
theorem sX7_isCommit : Cond.selects RX7 yX7_isCommit yX7_isCommit ∈ gw := gw_p 32 (by decide +kernel) rfl
abbrev mX7_merge : gM := (yX7_merge, cX7_merge, 5, (some .int), [])
theorem kX7_merge : gKn mX7_merge 1 := ⟨gw_t 1023 (by decide +kernel) rfl, gw_t 7 (by decide +kernel) rfl, by decide +kernel, by decide +kernel⟩
theorem iX7_merge : Cond.instanceMethod yX7_merge ∈ gw := gw_t 1021 (by decide +kernel) rfl
theorem sX7_merge : Cond.selects RX7 yX7_merge yX7_merge ∈ gw := gw_t 1022 (by decide +kernel) rfl
abbrev mX7_isAbove : gM := (yX7_isAbove, cX7_isAbove, 3, (some .boolean), [])
theorem kX7_isAbove : gKn mX7_isAbove 2 := ⟨gw_t 1027 (by decide +kernel) rfl, gw_t 7 (by decide +kernel) rfl, by decide +kernel, by decide +kernel⟩
theorem iX7_isAbove : Cond.instanceMethod yX7_isAbove ∈ gw := gw_t 1026 (by decide +kernel) rfl
theorem sX7_isAbove : Cond.selects RX7 yX7_isAbove yX7_isAbove ∈ gw := gw_p 33 (by decide +kernel) rfl
abbrev mX7_findsAbove : gM := (yX7_findsAbove, cX7_findsAbove, 4, none, [])
theorem kX7_findsAbove : gKn mX7_findsAbove 2 := ⟨gw_t 1031 (by decide +kernel) rfl, gw_t 7 (by decide +kernel) rfl, by decide +kernel, by decide +kernel⟩
theorem iX7_findsAbove : Cond.instanceMethod yX7_findsAbove ∈ gw := gw_t 1030 (by decide +kernel) rfl
theorem sX7_findsAbove : Cond.selects RX7 yX7_findsAbove yX7_findsAbove ∈ gw := gw_p 34 (by decide +kernel) rfl
abbrev mX7_bestBase : gM := (yX7_bestBase, cX7_bestBase, 4, (some .int), [])
theorem kX7_bestBase : gKn mX7_bestBase 2 := ⟨gw_t 1035 (by decide +kernel) rfl, gw_t 7 (by decide +kernel) rfl, by decide +kernel, by decide +kernel⟩
theorem iX7_bestBase : Cond.instanceMethod yX7_bestBase ∈ gw := gw_t 1034 (by decide +kernel) rfl
theorem sX7_bestBase : Cond.selects RX7 yX7_bestBase yX7_bestBase ∈ gw := gw_p 35 (by decide +kernel) rfl
abbrev mX7_findsBases : gM := (yX7_findsBases, cX7_findsBases, 7, (some .int), [])
theorem kX7_findsBases : gKn mX7_findsBases 2 := ⟨gw_t 1039 (by decide +kernel) rfl, gw_t 7 (by decide +kernel) rfl, by decide +kernel, by decide +kernel⟩
theorem iX7_findsBases : Cond.instanceMethod yX7_findsBases ∈ gw := gw_t 1038 (by decide +kernel) rfl
theorem sX7_findsBases : Cond.selects RX7 yX7_findsBases yX7_findsBases ∈ gw := gw_p 36 (by decide +kernel) rfl
abbrev mX7_merges : gM := (yX7_merges, cX7_merges, 7, (some .int), [])
theorem kX7_merges : gKn mX7_merges 3 := ⟨gw_t 1043 (by decide +kernel) rfl, gw_t 7 (by decide +kernel) rfl, by decide +kernel, by decide +kernel⟩
theorem iX7_merges : Cond.instanceMethod yX7_merges ∈ gw := gw_t 1042 (by decide +kernel) rfl
theorem sX7_merges : Cond.selects RX7 yX7_merges yX7_merges ∈ gw := gw_p 37 (by decide +kernel) rfl
abbrev mX7_findsMoves : gM := (yX7_findsMoves, cX7_findsMoves, 9, none, [])
theorem kX7_findsMoves : gKn mX7_findsMoves 3 := ⟨gw_t 1047 (by decide +kernel) rfl, gw_t 7 (by decide +kernel) rfl, by decide +kernel, by decide +kernel⟩
theorem iX7_findsMoves : Cond.instanceMethod yX7_findsMoves ∈ gw := gw_t 1046 (by decide +kernel) rfl
theorem sX7_findsMoves : Cond.selects RX7 yX7_findsMoves yX7_findsMoves ∈ gw := gw_p 38 (by decide +kernel) rfl
abbrev mX7_isTarget : gM := (yX7_isTarget, cX7_isTarget, 3, (some .boolean), [])
theorem kX7_isTarget : gKn mX7_isTarget 2 := ⟨gw_t 1050 (by decide +kernel) rfl, gw_t 7 (by decide +kernel) rfl, by decide +kernel, by decide +kernel⟩
theorem tX7_isTarget : Cond.static yX7_isTarget ∈ gw := gw_t 1049 (by decide +kernel) rfl
abbrev mX7_likeness : gM := (yX7_likeness, cX7_likeness, 4, (some .int), [])
theorem kX7_likeness : gKn mX7_likeness 2 := ⟨gw_t 1053 (by decide +kernel) rfl, gw_t 7 (by decide +kernel) rfl, by decide +kernel, by decide +kernel⟩
theorem tX7_likeness : Cond.static yX7_likeness ∈ gw := gw_t 1052 (by decide +kernel) rfl
abbrev mX7_line : gM := (yX7_line, cX7_line, 2, (some .int), [])
theorem kX7_line : gKn mX7_line 2 := ⟨gw_t 1056 (by decide +kernel) rfl, gw_t 7 (by decide +kernel) rfl, by decide +kernel, by decide +kernel⟩
theorem tX7_line : Cond.static yX7_line ∈ gw := gw_t 1055 (by decide +kernel) rfl
abbrev mX7_follows : gM := (yX7_follows, cX7_follows, 12, (some .boolean), [])
theorem kX7_follows : gKn mX7_follows 4 := ⟨gw_t 1060 (by decide +kernel) rfl, gw_t 7 (by decide +kernel) rfl, by decide +kernel, by decide +kernel⟩
theorem iX7_follows : Cond.instanceMethod yX7_follows ∈ gw := gw_t 1059 (by decide +kernel) rfl
theorem sX7_follows : Cond.selects RX7 yX7_follows yX7_follows ∈ gw := gw_p 39 (by decide +kernel) rfl
abbrev mX7_placeOf : gM := (yX7_placeOf, cX7_placeOf, 3, (some .int), [])
theorem kX7_placeOf : gKn mX7_placeOf 3 := ⟨gw_t 1063 (by decide +kernel) rfl, gw_t 7 (by decide +kernel) rfl, by decide +kernel, by decide +kernel⟩
theorem tX7_placeOf : Cond.static yX7_placeOf ∈ gw := gw_t 1062 (by decide +kernel) rfl
abbrev mX7_joined : gM := (yX7_joined, cX7_joined, 3, (some .int), [])
theorem kX7_joined : gKn mX7_joined 3 := ⟨gw_t 1066 (by decide +kernel) rfl, gw_t 7 (by decide +kernel) rfl, by decide +kernel, by decide +kernel⟩
theorem tX7_joined : Cond.static yX7_joined ∈ gw := gw_t 1065 (by decide +kernel) rfl
abbrev mX7_comes : gM := (yX7_comes, cX7_comes, 3, none, [])
theorem kX7_comes : gKn mX7_comes 2 := ⟨gw_t 1070 (by decide +kernel) rfl, gw_t 7 (by decide +kernel) rfl, by decide +kernel, by decide +kernel⟩
theorem iX7_comes : Cond.instanceMethod yX7_comes ∈ gw := gw_t 1069 (by decide +kernel) rfl
theorem sX7_comes : Cond.selects RX7 yX7_comes yX7_comes ∈ gw := gw_p 40 (by decide +kernel) rfl
abbrev mX7_isNew : gM := (yX7_isNew, cX7_isNew, 4, (some .boolean), [])
theorem kX7_isNew : gKn mX7_isNew 4 := ⟨gw_t 1073 (by decide +kernel) rfl, gw_t 7 (by decide +kernel) rfl, by decide +kernel, by decide +kernel⟩
theorem tX7_isNew : Cond.static yX7_isNew ∈ gw := gw_t 1072 (by decide +kernel) rfl
abbrev mX7_putOnto : gM := (yX7_putOnto, cX7_putOnto, 7, (some .int), [])
theorem kX7_putOnto : gKn mX7_putOnto 1 := ⟨gw_t 1077 (by decide +kernel) rfl, gw_t 7 (by decide +kernel) rfl, by decide +kernel, by decide +kernel⟩
theorem iX7_putOnto : Cond.instanceMethod yX7_putOnto ∈ gw := gw_t 1075 (by decide +kernel) rfl
theorem sX7_putOnto : Cond.selects RX7 yX7_putOnto yX7_putOnto ∈ gw := gw_t 1076 (by decide +kernel) rfl
abbrev mX7_applied : gM := (yX7_applied, cX7_applied, 4, (some .int), [])
theorem kX7_applied : gKn mX7_applied 2 := ⟨gw_t 1081 (by decide +kernel) rfl, gw_t 7 (by decide +kernel) rfl, by decide +kernel, by decide +kernel⟩
theorem iX7_applied : Cond.instanceMethod yX7_applied ∈ gw := gw_t 1080 (by decide +kernel) rfl
theorem sX7_applied : Cond.selects RX7 yX7_applied yX7_applied ∈ gw := gw_p 41 (by decide +kernel) rfl
abbrev mX7_currentBranch : gM := (yX7_currentBranch, cX7_currentBranch, 1, (some .int), [])
theorem kX7_currentBranch : gKn mX7_currentBranch 0 := ⟨gw_t 1085 (by decide +kernel) rfl, gw_t 7 (by decide +kernel) rfl, by decide +kernel, by decide +kernel⟩
theorem iX7_currentBranch : Cond.instanceMethod yX7_currentBranch ∈ gw := gw_t 1083 (by decide +kernel) rfl
theorem sX7_currentBranch : Cond.selects RX7 yX7_currentBranch yX7_currentBranch ∈ gw := gw_t 1084 (by decide +kernel) rfl
abbrev mX7_head : gM := (yX7_head, cX7_head, 2, (some .int), [])
theorem kX7_head : gKn mX7_head 1 := ⟨gw_t 1089 (by decide +kernel) rfl, gw_t 7 (by decide +kernel) rfl, by decide +kernel, by decide +kernel⟩
theorem iX7_head : Cond.instanceMethod yX7_head ∈ gw := gw_t 1087 (by decide +kernel) rfl
theorem sX7_head : Cond.selects RX7 yX7_head yX7_head ∈ gw := gw_t 1088 (by decide +kernel) rfl
abbrev mX7_commits : gM := (yX7_commits, cX7_commits, 1, (some .int), [])
theorem kX7_commits : gKn mX7_commits 0 := ⟨gw_t 1093 (by decide +kernel) rfl, gw_t 7 (by decide +kernel) rfl, by decide +kernel, by decide +kernel⟩
theorem iX7_commits : Cond.instanceMethod yX7_commits ∈ gw := gw_t 1091 (by decide +kernel) rfl
theorem sX7_commits : Cond.selects RX7 yX7_commits yX7_commits ∈ gw := gw_t 1092 (by decide +kernel) rfl
abbrev mX7_contentIn : gM := (yX7_contentIn, cX7_contentIn, 3, (some .int), [])
theorem kX7_contentIn : gKn mX7_contentIn 2 := ⟨gw_t 1097 (by decide +kernel) rfl, gw_t 7 (by decide +kernel) rfl, by decide +kernel, by decide +kernel⟩
theorem iX7_contentIn : Cond.instanceMethod yX7_contentIn ∈ gw := gw_t 1095 (by decide +kernel) rfl
theorem sX7_contentIn : Cond.selects RX7 yX7_contentIn yX7_contentIn ∈ gw := gw_t 1096 (by decide +kernel) rfl
abbrev mX7_parentOf : gM := (yX7_parentOf, cX7_parentOf, 4, (some .int), [])
theorem kX7_parentOf : gKn mX7_parentOf 2 := ⟨gw_t 1101 (by decide +kernel) rfl, gw_t 7 (by decide +kernel) rfl, by decide +kernel, by decide +kernel⟩
theorem iX7_parentOf : Cond.instanceMethod yX7_parentOf ∈ gw := gw_t 1099 (by decide +kernel) rfl
theorem sX7_parentOf : Cond.selects RX7 yX7_parentOf yX7_parentOf ∈ gw := gw_t 1100 (by decide +kernel) rfl
abbrev mX7_generation : gM := (yX7_generation, cX7_generation, 2, (some .int), [])
theorem kX7_generation : gKn mX7_generation 1 := ⟨gw_t 1105 (by decide +kernel) rfl, gw_t 7 (by decide +kernel) rfl, by decide +kernel, by decide +kernel⟩
theorem iX7_generation : Cond.instanceMethod yX7_generation ∈ gw := gw_t 1103 (by decide +kernel) rfl
theorem sX7_generation : Cond.selects RX7 yX7_generation yX7_generation ∈ gw := gw_t 1104 (by decide +kernel) rfl
abbrev mX7_findsGenerations : gM := (yX7_findsGenerations, cX7_findsGenerations, 3, none, [])
theorem kX7_findsGenerations : gKn mX7_findsGenerations 0 := ⟨gw_t 1109 (by decide +kernel) rfl, gw_t 7 (by decide +kernel) rfl, by decide +kernel, by decide +kernel⟩
theorem iX7_findsGenerations : Cond.instanceMethod yX7_findsGenerations ∈ gw := gw_t 1108 (by decide +kernel) rfl
theorem sX7_findsGenerations : Cond.selects RX7 yX7_findsGenerations yX7_findsGenerations ∈ gw := gw_p 42 (by decide +kernel) rfl
abbrev mX7_isAncestor : gM := (yX7_isAncestor, cX7_isAncestor, 3, (some .boolean), [])
theorem kX7_isAncestor : gKn mX7_isAncestor 2 := ⟨gw_t 1114 (by decide +kernel) rfl, gw_t 7 (by decide +kernel) rfl, by decide +kernel, by decide +kernel⟩
theorem iX7_isAncestor : Cond.instanceMethod yX7_isAncestor ∈ gw := gw_t 1112 (by decide +kernel) rfl
theorem sX7_isAncestor : Cond.selects RX7 yX7_isAncestor yX7_isAncestor ∈ gw := gw_t 1113 (by decide +kernel) rfl
abbrev mX7_areCommits : gM := (yX7_areCommits, cX7_areCommits, 3, (some .boolean), [])
theorem kX7_areCommits : gKn mX7_areCommits 2 := ⟨gw_t 1118 (by decide +kernel) rfl, gw_t 7 (by decide +kernel) rfl, by decide +kernel, by decide +kernel⟩
theorem iX7_areCommits : Cond.instanceMethod yX7_areCommits ∈ gw := gw_t 1117 (by decide +kernel) rfl
theorem sX7_areCommits : Cond.selects RX7 yX7_areCommits yX7_areCommits ∈ gw := gw_p 43 (by decide +kernel) rfl
abbrev mX7_isAncestorByWalking : gM := (yX7_isAncestorByWalking, cX7_isAncestorByWalking, 3, (some .boolean), [])
theorem kX7_isAncestorByWalking : gKn mX7_isAncestorByWalking 2 := ⟨gw_t 1122 (by decide +kernel) rfl, gw_t 7 (by decide +kernel) rfl, by decide +kernel, by decide +kernel⟩
theorem iX7_isAncestorByWalking : Cond.instanceMethod yX7_isAncestorByWalking ∈ gw := gw_t 1120 (by decide +kernel) rfl
theorem sX7_isAncestorByWalking : Cond.selects RX7 yX7_isAncestorByWalking yX7_isAncestorByWalking ∈ gw := gw_t 1121 (by decide +kernel) rfl
abbrev mX7_base : gM := (yX7_base, cX7_base, 3, (some .int), [])
theorem kX7_base : gKn mX7_base 2 := ⟨gw_t 1127 (by decide +kernel) rfl, gw_t 7 (by decide +kernel) rfl, by decide +kernel, by decide +kernel⟩
theorem iX7_base : Cond.instanceMethod yX7_base ∈ gw := gw_t 1125 (by decide +kernel) rfl
theorem sX7_base : Cond.selects RX7 yX7_base yX7_base ∈ gw := gw_t 1126 (by decide +kernel) rfl
abbrev mX7_baseByWalking : gM := (yX7_baseByWalking, cX7_baseByWalking, 3, (some .int), [])
theorem kX7_baseByWalking : gKn mX7_baseByWalking 2 := ⟨gw_t 1131 (by decide +kernel) rfl, gw_t 7 (by decide +kernel) rfl, by decide +kernel, by decide +kernel⟩
theorem iX7_baseByWalking : Cond.instanceMethod yX7_baseByWalking ∈ gw := gw_t 1129 (by decide +kernel) rfl
theorem sX7_baseByWalking : Cond.selects RX7 yX7_baseByWalking yX7_baseByWalking ∈ gw := gw_t 1130 (by decide +kernel) rfl
abbrev mX7_bases : gM := (yX7_bases, cX7_bases, 3, (some .int), [])
theorem kX7_bases : gKn mX7_bases 2 := ⟨gw_t 1136 (by decide +kernel) rfl, gw_t 7 (by decide +kernel) rfl, by decide +kernel, by decide +kernel⟩
theorem iX7_bases : Cond.instanceMethod yX7_bases ∈ gw := gw_t 1134 (by decide +kernel) rfl
theorem sX7_bases : Cond.selects RX7 yX7_bases yX7_bases ∈ gw := gw_t 1135 (by decide +kernel) rfl
abbrev mX7_movedTo : gM := (yX7_movedTo, cX7_movedTo, 4, (some .int), [])
theorem kX7_movedTo : gKn mX7_movedTo 3 := ⟨gw_t 1140 (by decide +kernel) rfl, gw_t 7 (by decide +kernel) rfl, by decide +kernel, by decide +kernel⟩
theorem iX7_movedTo : Cond.instanceMethod yX7_movedTo ∈ gw := gw_t 1138 (by decide +kernel) rfl
theorem sX7_movedTo : Cond.selects RX7 yX7_movedTo yX7_movedTo ∈ gw := gw_t 1139 (by decide +kernel) rfl
abbrev mX7_conflicts : gM := (yX7_conflicts, cX7_conflicts, 3, (some .int), [])
theorem kX7_conflicts : gKn mX7_conflicts 2 := ⟨gw_t 1144 (by decide +kernel) rfl, gw_t 7 (by decide +kernel) rfl, by decide +kernel, by decide +kernel⟩
theorem iX7_conflicts : Cond.instanceMethod yX7_conflicts ∈ gw := gw_t 1142 (by decide +kernel) rfl
theorem sX7_conflicts : Cond.selects RX7 yX7_conflicts yX7_conflicts ∈ gw := gw_t 1143 (by decide +kernel) rfl
abbrev mX7_lastChange : gM := (yX7_lastChange, cX7_lastChange, 3, (some .int), [])
theorem kX7_lastChange : gKn mX7_lastChange 1 := ⟨gw_t 1148 (by decide +kernel) rfl, gw_t 7 (by decide +kernel) rfl, by decide +kernel, by decide +kernel⟩
theorem iX7_lastChange : Cond.instanceMethod yX7_lastChange ∈ gw := gw_t 1146 (by decide +kernel) rfl
theorem sX7_lastChange : Cond.selects RX7 yX7_lastChange yX7_lastChange ∈ gw := gw_t 1147 (by decide +kernel) rfl
abbrev mX7_packed : gM := (yX7_packed, cX7_packed, 1, (some .int), [])
theorem kX7_packed : gKn mX7_packed 0 := ⟨gw_t 1152 (by decide +kernel) rfl, gw_t 7 (by decide +kernel) rfl, by decide +kernel, by decide +kernel⟩
theorem iX7_packed : Cond.instanceMethod yX7_packed ∈ gw := gw_t 1150 (by decide +kernel) rfl
theorem sX7_packed : Cond.selects RX7 yX7_packed yX7_packed ∈ gw := gw_t 1151 (by decide +kernel) rfl
abbrev mX7_packsAll : gM := (yX7_packsAll, cX7_packsAll, 3, none, [])
theorem kX7_packsAll : gKn mX7_packsAll 0 := ⟨gw_t 1156 (by decide +kernel) rfl, gw_t 7 (by decide +kernel) rfl, by decide +kernel, by decide +kernel⟩
theorem iX7_packsAll : Cond.instanceMethod yX7_packsAll ∈ gw := gw_t 1155 (by decide +kernel) rfl
theorem sX7_packsAll : Cond.selects RX7 yX7_packsAll yX7_packsAll ∈ gw := gw_p 44 (by decide +kernel) rfl
abbrev mX7_packedAt : gM := (yX7_packedAt, cX7_packedAt, 3, (some .int), [])
theorem kX7_packedAt : gKn mX7_packedAt 1 := ⟨gw_t 1160 (by decide +kernel) rfl, gw_t 7 (by decide +kernel) rfl, by decide +kernel, by decide +kernel⟩
theorem iX7_packedAt : Cond.instanceMethod yX7_packedAt ∈ gw := gw_t 1159 (by decide +kernel) rfl
theorem sX7_packedAt : Cond.selects RX7 yX7_packedAt yX7_packedAt ∈ gw := gw_p 45 (by decide +kernel) rfl
abbrev mX7_packs : gM := (yX7_packs, cX7_packs, 6, none, [])
theorem kX7_packs : gKn mX7_packs 1 := ⟨gw_t 1164 (by decide +kernel) rfl, gw_t 7 (by decide +kernel) rfl, by decide +kernel, by decide +kernel⟩
theorem iX7_packs : Cond.instanceMethod yX7_packs ∈ gw := gw_t 1163 (by decide +kernel) rfl
theorem sX7_packs : Cond.selects RX7 yX7_packs yX7_packs ∈ gw := gw_p 46 (by decide +kernel) rfl
abbrev mX7_depthOf : gM := (yX7_depthOf, cX7_depthOf, 3, (some .int), [])
theorem kX7_depthOf : gKn mX7_depthOf 1 := ⟨gw_t 1168 (by decide +kernel) rfl, gw_t 7 (by decide +kernel) rfl, by decide +kernel, by decide +kernel⟩
theorem iX7_depthOf : Cond.instanceMethod yX7_depthOf ∈ gw := gw_t 1166 (by decide +kernel) rfl
theorem sX7_depthOf : Cond.selects RX7 yX7_depthOf yX7_depthOf ∈ gw := gw_t 1167 (by decide +kernel) rfl
abbrev mX7_packedFrom : gM := (yX7_packedFrom, cX7_packedFrom, 3, (some .int), [])
theorem kX7_packedFrom : gKn mX7_packedFrom 1 := ⟨gw_t 1172 (by decide +kernel) rfl, gw_t 7 (by decide +kernel) rfl, by decide +kernel, by decide +kernel⟩
theorem iX7_packedFrom : Cond.instanceMethod yX7_packedFrom ∈ gw := gw_t 1170 (by decide +kernel) rfl
theorem sX7_packedFrom : Cond.selects RX7 yX7_packedFrom yX7_packedFrom ∈ gw := gw_t 1171 (by decide +kernel) rfl
abbrev mX7_packSize : gM := (yX7_packSize, cX7_packSize, 1, (some .long), [])
theorem kX7_packSize : gKn mX7_packSize 0 := ⟨gw_t 1176 (by decide +kernel) rfl, gw_t 7 (by decide +kernel) rfl, by decide +kernel, by decide +kernel⟩
theorem iX7_packSize : Cond.instanceMethod yX7_packSize ∈ gw := gw_t 1174 (by decide +kernel) rfl
theorem sX7_packSize : Cond.selects RX7 yX7_packSize yX7_packSize ∈ gw := gw_t 1175 (by decide +kernel) rfl
abbrev mX7_sum : gM := (yX7_sum, cX7_sum, 4, (some .long), [])
theorem kX7_sum : gKn mX7_sum 0 := ⟨gw_t 1180 (by decide +kernel) rfl, gw_t 7 (by decide +kernel) rfl, by decide +kernel, by decide +kernel⟩
theorem iX7_sum : Cond.instanceMethod yX7_sum ∈ gw := gw_t 1179 (by decide +kernel) rfl
theorem sX7_sum : Cond.selects RX7 yX7_sum yX7_sum ∈ gw := gw_p 47 (by decide +kernel) rfl
abbrev mX7_packShare : gM := (yX7_packShare, cX7_packShare, 1, (some .float), [])
theorem kX7_packShare : gKn mX7_packShare 0 := ⟨gw_t 1184 (by decide +kernel) rfl, gw_t 7 (by decide +kernel) rfl, by decide +kernel, by decide +kernel⟩
theorem iX7_packShare : Cond.instanceMethod yX7_packShare ∈ gw := gw_t 1182 (by decide +kernel) rfl
theorem sX7_packShare : Cond.selects RX7 yX7_packShare yX7_packShare ∈ gw := gw_t 1183 (by decide +kernel) rfl
abbrev mX7_meanFiles : gM := (yX7_meanFiles, cX7_meanFiles, 4, (some .double), [])
theorem kX7_meanFiles : gKn mX7_meanFiles 0 := ⟨gw_t 1188 (by decide +kernel) rfl, gw_t 7 (by decide +kernel) rfl, by decide +kernel, by decide +kernel⟩
theorem iX7_meanFiles : Cond.instanceMethod yX7_meanFiles ∈ gw := gw_t 1186 (by decide +kernel) rfl
theorem sX7_meanFiles : Cond.selects RX7 yX7_meanFiles yX7_meanFiles ∈ gw := gw_t 1187 (by decide +kernel) rfl
/-! links -/
theorem lc_L_8 : Cond.classLink RL 8 "ForkHall" ∈ gw := gw_t 22 (by decide +kernel) rfl
theorem nX6 : Cond.instantiable RX6 7 ∈ gw := gw_t 23 (by decide +kernel) rfl
theorem lk_L_102 : Cond.methodLink RL 102 yX6_init ∈ gw := gw_t 24 (by decide +kernel) rfl
theorem lk_X6_1 : Cond.methodLink RX6 1 Lib.objectInit ∈ gw := gw_t 27 (by decide +kernel) rfl
theorem lc_X6_7 : Cond.classLink RX6 7 "ForkHall$History" ∈ gw := gw_t 30 (by decide +kernel) rfl
theorem nX1 : Cond.instantiable RX1 8 ∈ gw := gw_t 31 (by decide +kernel) rfl
theorem lk_X6_9 : Cond.methodLink RX6 9 yX1_init ∈ gw := gw_t 32 (by decide +kernel) rfl
theorem lk_X1_3 : Cond.methodLink RX1 3 Lib.objectInit ∈ gw := gw_t 35 (by decide +kernel) rfl
theorem lc_X1_9 : Cond.classLink RX1 9 "ForkHall$Tree" ∈ gw := gw_t 36 (by decide +kernel) rfl
theorem nX4 : Cond.instantiable RX4 1 ∈ gw := gw_t 38 (by decide +kernel) rfl
theorem lk_X1_17 : Cond.methodLink RX1 17 yX4_init ∈ gw := gw_t 39 (by decide +kernel) rfl
theorem lk_X4_3 : Cond.methodLink RX4 3 Lib.objectInit ∈ gw := gw_t 42 (by decide +kernel) rfl
theorem lf_X4_9 : Cond.fieldLink RX4 9 RX4 (TX4 0).2.1 (TX4 0).2.2.1 ∈ gw := gw_t 43 (by decide +kernel) rfl
theorem na_int : Cond.arrayClass .int ∈ gw := gw_t 47 (by decide +kernel) rfl
theorem lf_X1_11 : Cond.fieldLink RX1 11 RX1 (TX1 0).2.1 (TX1 0).2.2.1 ∈ gw := gw_t 48 (by decide +kernel) rfl
theorem lf_X1_18 : Cond.fieldLink RX1 18 RX1 (TX1 1).2.1 (TX1 1).2.2.1 ∈ gw := gw_t 49 (by decide +kernel) rfl
theorem lf_X1_22 : Cond.fieldLink RX1 22 RX1 (TX1 2).2.1 (TX1 2).2.2.1 ∈ gw := gw_t 50 (by decide +kernel) rfl
theorem lf_X1_26 : Cond.fieldLink RX1 26 RX1 (TX1 3).2.1 (TX1 3).2.2.1 ∈ gw := gw_t 51 (by decide +kernel) rfl
theorem lf_X1_29 : Cond.fieldLink RX1 29 RX1 (TX1 4).2.1 (TX1 4).2.2.1 ∈ gw := gw_t 52 (by decide +kernel) rfl
theorem lf_X1_32 : Cond.fieldLink RX1 32 RX1 (TX1 5).2.1 (TX1 5).2.2.1 ∈ gw := gw_t 53 (by decide +kernel) rfl
theorem lf_X1_36 : Cond.fieldLink RX1 36 RX1 (TX1 6).2.1 (TX1 6).2.2.1 ∈ gw := gw_t 54 (by decide +kernel) rfl
theorem lf_X1_39 : Cond.fieldLink RX1 39 RX1 (TX1 7).2.1 (TX1 7).2.2.1 ∈ gw := gw_t 55 (by decide +kernel) rfl
theorem na_long : Cond.arrayClass .long ∈ gw := gw_t 73 (by decide +kernel) rfl
theorem lc_X6_16 : Cond.classLink RX6 16 "ForkHall$TreeMerge" ∈ gw := gw_t 74 (by decide +kernel) rfl
theorem nX5 : Cond.instantiable RX5 5 ∈ gw := gw_t 75 (by decide +kernel) rfl
theorem lk_X6_18 : Cond.methodLink RX6 18 yX5_init ∈ gw := gw_t 76 (by decide +kernel) rfl
theorem lk_X5_3 : Cond.methodLink RX5 3 Lib.objectInit ∈ gw := gw_t 79 (by decide +kernel) rfl
theorem lc_X5_9 : Cond.classLink RX5 9 "ForkHall$Comparison" ∈ gw := gw_t 80 (by decide +kernel) rfl
theorem nX0 : Cond.instantiable RX0 4 ∈ gw := gw_t 81 (by decide +kernel) rfl
theorem lk_X5_11 : Cond.methodLink RX5 11 yX0_init ∈ gw := gw_t 82 (by decide +kernel) rfl
theorem lk_X0_3 : Cond.methodLink RX0 3 Lib.objectInit ∈ gw := gw_t 85 (by decide +kernel) rfl
theorem lc_X0_9 : Cond.classLink RX0 9 "ForkHall$Tree" ∈ gw := gw_t 86 (by decide +kernel) rfl
theorem lk_X0_11 : Cond.methodLink RX0 11 yX4_init ∈ gw := gw_t 87 (by decide +kernel) rfl
theorem lf_X0_12 : Cond.fieldLink RX0 12 RX0 (TX0 0).2.1 (TX0 0).2.2.1 ∈ gw := gw_t 88 (by decide +kernel) rfl
theorem lf_X0_18 : Cond.fieldLink RX0 18 RX0 (TX0 1).2.1 (TX0 1).2.2.1 ∈ gw := gw_t 89 (by decide +kernel) rfl
theorem lf_X0_21 : Cond.fieldLink RX0 21 RX0 (TX0 2).2.1 (TX0 2).2.2.1 ∈ gw := gw_t 90 (by decide +kernel) rfl
theorem lf_X0_25 : Cond.fieldLink RX0 25 RX0 (TX0 3).2.1 (TX0 3).2.2.1 ∈ gw := gw_t 91 (by decide +kernel) rfl
theorem lc_X5_21 : Cond.classLink RX5 21 "ForkHall$Tree" ∈ gw := gw_t 101 (by decide +kernel) rfl
theorem lk_X5_23 : Cond.methodLink RX5 23 yX4_init ∈ gw := gw_t 102 (by decide +kernel) rfl
theorem lf_X5_12 : Cond.fieldLink RX5 12 RX5 (TX5 0).2.1 (TX5 0).2.2.1 ∈ gw := gw_t 103 (by decide +kernel) rfl
theorem lf_X5_18 : Cond.fieldLink RX5 18 RX5 (TX5 1).2.1 (TX5 1).2.2.1 ∈ gw := gw_t 104 (by decide +kernel) rfl
theorem lf_X5_24 : Cond.fieldLink RX5 24 RX5 (TX5 2).2.1 (TX5 2).2.2.1 ∈ gw := gw_t 105 (by decide +kernel) rfl
theorem lf_X5_28 : Cond.fieldLink RX5 28 RX5 (TX5 3).2.1 (TX5 3).2.2.1 ∈ gw := gw_t 106 (by decide +kernel) rfl
theorem lf_X5_46 : Cond.fieldLink RX5 46 RX5 (TX5 4).2.1 (TX5 4).2.2.1 ∈ gw := gw_t 107 (by decide +kernel) rfl
theorem lc_X6_23 : Cond.classLink RX6 23 "ForkHall$Pack" ∈ gw := gw_t 119 (by decide +kernel) rfl
theorem nX3 : Cond.instantiable RX3 6 ∈ gw := gw_t 120 (by decide +kernel) rfl
theorem lk_X6_25 : Cond.methodLink RX6 25 yX3_init ∈ gw := gw_t 121 (by decide +kernel) rfl
theorem lk_X3_3 : Cond.methodLink RX3 3 Lib.objectInit ∈ gw := gw_t 124 (by decide +kernel) rfl
theorem lf_X3_9 : Cond.fieldLink RX3 9 RX3 (TX3 0).2.1 (TX3 0).2.2.1 ∈ gw := gw_t 125 (by decide +kernel) rfl
theorem lf_X3_15 : Cond.fieldLink RX3 15 RX3 (TX3 1).2.1 (TX3 1).2.2.1 ∈ gw := gw_t 126 (by decide +kernel) rfl
theorem lf_X3_18 : Cond.fieldLink RX3 18 RX3 (TX3 2).2.1 (TX3 2).2.2.1 ∈ gw := gw_t 127 (by decide +kernel) rfl
theorem lf_X3_21 : Cond.fieldLink RX3 21 RX3 (TX3 3).2.1 (TX3 3).2.2.1 ∈ gw := gw_t 128 (by decide +kernel) rfl
theorem lf_X3_33 : Cond.fieldLink RX3 33 RX3 (TX3 4).2.1 (TX3 4).2.2.1 ∈ gw := gw_t 129 (by decide +kernel) rfl
theorem lf_X3_25 : Cond.fieldLink RX3 25 RX3 (TX3 5).2.1 (TX3 5).2.2.1 ∈ gw := gw_t 130 (by decide +kernel) rfl
theorem lc_X6_30 : Cond.classLink RX6 30 "ForkHall$Tree" ∈ gw := gw_t 144 (by decide +kernel) rfl
theorem lk_X6_32 : Cond.methodLink RX6 32 yX4_init ∈ gw := gw_t 145 (by decide +kernel) rfl
theorem lf_X6_10 : Cond.fieldLink RX6 10 RX6 (TX6 0).2.1 (TX6 0).2.2.1 ∈ gw := gw_t 146 (by decide +kernel) rfl
theorem lf_X6_19 : Cond.fieldLink RX6 19 RX6 (TX6 1).2.1 (TX6 1).2.2.1 ∈ gw := gw_t 147 (by decide +kernel) rfl
theorem lf_X6_26 : Cond.fieldLink RX6 26 RX6 (TX6 2).2.1 (TX6 2).2.2.1 ∈ gw := gw_t 148 (by decide +kernel) rfl
theorem lf_X6_33 : Cond.fieldLink RX6 33 RX6 (TX6 3).2.1 (TX6 3).2.2.1 ∈ gw := gw_t 149 (by decide +kernel) rfl
theorem lf_X6_37 : Cond.fieldLink RX6 37 RX6 (TX6 4).2.1 (TX6 4).2.2.1 ∈ gw := gw_t 150 (by decide +kernel) rfl
theorem lf_X6_41 : Cond.fieldLink RX6 41 RX6 (TX6 5).2.1 (TX6 5).2.2.1 ∈ gw := gw_t 151 (by decide +kernel) rfl
theorem lf_X6_44 : Cond.fieldLink RX6 44 RX6 (TX6 6).2.1 (TX6 6).2.2.1 ∈ gw := gw_t 152 (by decide +kernel) rfl
theorem lk_L_125 : Cond.methodLink RL 125 yX6_changedPaths ∈ gw := gw_t 168 (by decide +kernel) rfl
theorem lk_X6_76 : Cond.methodLink RX6 76 yX6_headOf ∈ gw := gw_t 172 (by decide +kernel) rfl
theorem lk_X6_102 : Cond.methodLink RX6 102 yX6_isBranchNumber ∈ gw := gw_t 176 (by decide +kernel) rfl
theorem lk_X6_79 : Cond.methodLink RX6 79 yX1_treeOf ∈ gw := gw_t 179 (by decide +kernel) rfl
theorem lk_X1_43 : Cond.methodLink RX1 43 yX1_has ∈ gw := gw_t 183 (by decide +kernel) rfl
theorem lk_X6_83 : Cond.methodLink RX6 83 yX4_differences ∈ gw := gw_t 187 (by decide +kernel) rfl
theorem lk_X4_15 : Cond.methodLink RX4 15 yX4_at ∈ gw := gw_t 191 (by decide +kernel) rfl
theorem lk_L_148 : Cond.methodLink RL 148 yX6_currentBranch ∈ gw := gw_t 195 (by decide +kernel) rfl
theorem lk_L_155 : Cond.methodLink RL 155 yX6_commits ∈ gw := gw_t 199 (by decide +kernel) rfl
theorem lk_X6_143 : Cond.methodLink RX6 143 yX1_size ∈ gw := gw_t 203 (by decide +kernel) rfl
theorem lk_L_193 : Cond.methodLink RL 193 yX6_packed ∈ gw := gw_t 207 (by decide +kernel) rfl
theorem lk_X6_198 : Cond.methodLink RX6 198 yX3_size ∈ gw := gw_t 211 (by decide +kernel) rfl
theorem lk_L_203 : Cond.methodLink RL 203 yX6_packSize ∈ gw := gw_t 215 (by decide +kernel) rfl
theorem lk_X6_212 : Cond.methodLink RX6 212 yX3_sumOfSizes ∈ gw := gw_t 219 (by decide +kernel) rfl
theorem lk_L_212 : Cond.methodLink RL 212 yX6_meanFiles ∈ gw := gw_t 223 (by decide +kernel) rfl
theorem lk_X6_223 : Cond.methodLink RX6 223 yX1_sumOfFiles ∈ gw := gw_t 227 (by decide +kernel) rfl
theorem lk_X1_51 : Cond.methodLink RX1 51 yX1_treeOf ∈ gw := gw_t 231 (by decide +kernel) rfl
theorem lk_X1_112 : Cond.methodLink RX1 112 yX4_countFiles ∈ gw := gw_t 232 (by decide +kernel) rfl
theorem lk_L_106 : Cond.methodLink RL 106 yL_write ∈ gw := gw_t 236 (by decide +kernel) rfl
theorem lc_L_13 : Cond.classLink RL 13 "java/lang/IndexOutOfBoundsException" ∈ gw := gw_t 239 (by decide +kernel) rfl
theorem nJx00060 : Cond.instantiable RJx00060 6 ∈ gw := gw_t 240 (by decide +kernel) rfl
theorem nJ0 : Cond.instantiable RJ0 4 ∈ gw := gw_t 313 (by decide +kernel) rfl
theorem na_byte : Cond.arrayClass .byte ∈ gw := gw_t 314 (by decide +kernel) rfl
theorem lc_L_15 : Cond.classLink RL 15 "java/lang/IllegalArgumentException" ∈ gw := gw_t 319 (by decide +kernel) rfl
theorem lk_L_7 : Cond.methodLink RL 7 yX6_write ∈ gw := gw_t 320 (by decide +kernel) rfl
theorem lk_X6_48 : Cond.methodLink RX6 48 yX6_requirePath ∈ gw := gw_t 324 (by decide +kernel) rfl
theorem lc_X6_106 : Cond.classLink RX6 106 "java/lang/IndexOutOfBoundsException" ∈ gw := gw_t 327 (by decide +kernel) rfl
theorem lc_X6_52 : Cond.classLink RX6 52 "java/lang/IllegalArgumentException" ∈ gw := gw_t 340 (by decide +kernel) rfl
theorem lk_X6_59 : Cond.methodLink RX6 59 yX4_at ∈ gw := gw_t 356 (by decide +kernel) rfl
theorem lk_X6_63 : Cond.methodLink RX6 63 yX4_put ∈ gw := gw_t 357 (by decide +kernel) rfl
theorem lk_L_115 : Cond.methodLink RL 115 yL_erase ∈ gw := gw_t 361 (by decide +kernel) rfl
theorem lc_L_21 : Cond.classLink RL 21 "java/util/NoSuchElementException" ∈ gw := gw_t 364 (by decide +kernel) rfl
theorem lk_L_17 : Cond.methodLink RL 17 yX6_erase ∈ gw := gw_t 365 (by decide +kernel) rfl
theorem lk_X6_67 : Cond.methodLink RX6 67 yX6_requireFile ∈ gw := gw_t 369 (by decide +kernel) rfl
theorem lc_X6_163 : Cond.classLink RX6 163 "java/util/NoSuchElementException" ∈ gw := gw_t 372 (by decide +kernel) rfl
theorem lk_L_119 : Cond.methodLink RL 119 yL_move ∈ gw := gw_t 388 (by decide +kernel) rfl
theorem lc_L_26 : Cond.classLink RL 26 "java/lang/IllegalStateException" ∈ gw := gw_t 391 (by decide +kernel) rfl
theorem lk_L_23 : Cond.methodLink RL 23 yX6_move ∈ gw := gw_t 392 (by decide +kernel) rfl
theorem lc_X6_71 : Cond.classLink RX6 71 "java/lang/IllegalStateException" ∈ gw := gw_t 396 (by decide +kernel) rfl
theorem lk_L_122 : Cond.methodLink RL 122 yL_content ∈ gw := gw_t 412 (by decide +kernel) rfl
theorem lk_L_28 : Cond.methodLink RL 28 yX6_content ∈ gw := gw_t 415 (by decide +kernel) rfl
theorem lk_L_129 : Cond.methodLink RL 129 yL_commit ∈ gw := gw_t 419 (by decide +kernel) rfl
theorem lk_L_31 : Cond.methodLink RL 31 yX6_commit ∈ gw := gw_t 422 (by decide +kernel) rfl
theorem lk_X6_87 : Cond.methodLink RX6 87 yX6_changedPaths ∈ gw := gw_t 426 (by decide +kernel) rfl
theorem lk_X6_93 : Cond.methodLink RX6 93 yX1_record ∈ gw := gw_t 428 (by decide +kernel) rfl
theorem lk_X1_47 : Cond.methodLink RX1 47 yX1_findSame ∈ gw := gw_t 432 (by decide +kernel) rfl
theorem lk_X1_73 : Cond.methodLink RX1 73 yX1_firstParent ∈ gw := gw_t 436 (by decide +kernel) rfl
theorem lk_X1_76 : Cond.methodLink RX1 76 yX1_secondParent ∈ gw := gw_t 440 (by decide +kernel) rfl
theorem lk_X1_79 : Cond.methodLink RX1 79 yX4_differences ∈ gw := gw_t 444 (by decide +kernel) rfl
theorem lk_X1_55 : Cond.methodLink RX1 55 yX4_copy ∈ gw := gw_t 445 (by decide +kernel) rfl
theorem lk_X1_59 : Cond.methodLink RX1 59 yX1_generationAt ∈ gw := gw_t 449 (by decide +kernel) rfl
theorem lk_X1_63 : Cond.methodLink RX1 63 yJ9_max_7cf53 ∈ gw := gw_t 453 (by decide +kernel) rfl
theorem lk_X1_69 : Cond.methodLink RX1 69 yX1_ancestorsAt ∈ gw := gw_t 456 (by decide +kernel) rfl
theorem lk_X6_99 : Cond.methodLink RX6 99 yX6_takeAsHead ∈ gw := gw_t 461 (by decide +kernel) rfl
theorem lk_X6_119 : Cond.methodLink RX6 119 yX4_copy ∈ gw := gw_t 465 (by decide +kernel) rfl
theorem lk_X6_239 : Cond.methodLink RX6 239 yX3_catchUpWith ∈ gw := gw_t 466 (by decide +kernel) rfl
theorem lk_X3_36 : Cond.methodLink RX3 36 yX1_size ∈ gw := gw_t 470 (by decide +kernel) rfl
theorem lk_X3_42 : Cond.methodLink RX3 42 yX1_treeOf ∈ gw := gw_t 471 (by decide +kernel) rfl
theorem lk_X3_46 : Cond.methodLink RX3 46 yX4_at ∈ gw := gw_t 472 (by decide +kernel) rfl
theorem lk_X3_52 : Cond.methodLink RX3 52 yX3_add ∈ gw := gw_t 473 (by decide +kernel) rfl
theorem lk_X3_56 : Cond.methodLink RX3 56 yX3_find ∈ gw := gw_t 477 (by decide +kernel) rfl
theorem lk_X3_59 : Cond.methodLink RX3 59 yX2_likeness ∈ gw := gw_t 481 (by decide +kernel) rfl
theorem lk_L_133 : Cond.methodLink RL 133 yL_branch ∈ gw := gw_t 484 (by decide +kernel) rfl
theorem lk_L_35 : Cond.methodLink RL 35 yX6_branch ∈ gw := gw_t 487 (by decide +kernel) rfl
theorem lk_L_136 : Cond.methodLink RL 136 yL_checkOut ∈ gw := gw_t 493 (by decide +kernel) rfl
theorem lk_L_38 : Cond.methodLink RL 38 yX6_checkOut ∈ gw := gw_t 496 (by decide +kernel) rfl
theorem lk_X6_113 : Cond.methodLink RX6 113 yX6_requireHead ∈ gw := gw_t 500 (by decide +kernel) rfl
theorem lk_X6_116 : Cond.methodLink RX6 116 yX6_requireNoChanges ∈ gw := gw_t 505 (by decide +kernel) rfl
theorem lk_L_139 : Cond.methodLink RL 139 yL_reset ∈ gw := gw_t 510 (by decide +kernel) rfl
theorem lk_L_41 : Cond.methodLink RL 41 yX6_reset ∈ gw := gw_t 513 (by decide +kernel) rfl
theorem lk_X6_123 : Cond.methodLink RX6 123 yX6_requireCommit ∈ gw := gw_t 517 (by decide +kernel) rfl
theorem lk_X6_230 : Cond.methodLink RX6 230 yX1_has ∈ gw := gw_t 521 (by decide +kernel) rfl
theorem lk_L_142 : Cond.methodLink RL 142 yL_merge ∈ gw := gw_t 523 (by decide +kernel) rfl
theorem lc_L_47 : Cond.classLink RL 47 "java/lang/UnsupportedOperationException" ∈ gw := gw_t 526 (by decide +kernel) rfl
theorem lk_L_44 : Cond.methodLink RL 44 yX6_merge ∈ gw := gw_t 527 (by decide +kernel) rfl
theorem lk_X6_126 : Cond.methodLink RX6 126 yX1_contains ∈ gw := gw_t 531 (by decide +kernel) rfl
theorem lk_X1_83 : Cond.methodLink RX1 83 yX1_isIn ∈ gw := gw_t 535 (by decide +kernel) rfl
theorem lk_X6_132 : Cond.methodLink RX6 132 yX6_recordMerge ∈ gw := gw_t 540 (by decide +kernel) rfl
theorem lk_X6_174 : Cond.methodLink RX6 174 yX1_bestBase ∈ gw := gw_t 544 (by decide +kernel) rfl
theorem lk_X6_189 : Cond.methodLink RX6 189 yX5_run ∈ gw := gw_t 548 (by decide +kernel) rfl
theorem lk_X5_40 : Cond.methodLink RX5 40 yX1_treeOf ∈ gw := gw_t 552 (by decide +kernel) rfl
theorem lk_X5_32 : Cond.methodLink RX5 32 yX0_run ∈ gw := gw_t 553 (by decide +kernel) rfl
theorem lk_X0_28 : Cond.methodLink RX0 28 yX4_copy ∈ gw := gw_t 557 (by decide +kernel) rfl
theorem lk_X0_32 : Cond.methodLink RX0 32 yX0_takeMoves ∈ gw := gw_t 558 (by decide +kernel) rfl
theorem lk_X0_36 : Cond.methodLink RX0 36 yX0_isFreeToLeave ∈ gw := gw_t 562 (by decide +kernel) rfl
theorem lk_X0_43 : Cond.methodLink RX0 43 yX4_at ∈ gw := gw_t 566 (by decide +kernel) rfl
theorem lk_X0_53 : Cond.methodLink RX0 53 yX0_target ∈ gw := gw_t 567 (by decide +kernel) rfl
theorem lk_X0_40 : Cond.methodLink RX0 40 yX0_isFreeToCome ∈ gw := gw_t 571 (by decide +kernel) rfl
theorem lk_X0_56 : Cond.methodLink RX0 56 yX0_source ∈ gw := gw_t 575 (by decide +kernel) rfl
theorem lk_X0_47 : Cond.methodLink RX0 47 yX2_likeness ∈ gw := gw_t 579 (by decide +kernel) rfl
theorem lk_X5_50 : Cond.methodLink RX5 50 yX4_put ∈ gw := gw_t 580 (by decide +kernel) rfl
theorem lk_X5_54 : Cond.methodLink RX5 54 yX0_contentBefore ∈ gw := gw_t 581 (by decide +kernel) rfl
theorem lk_X5_57 : Cond.methodLink RX5 57 yX5_follow ∈ gw := gw_t 585 (by decide +kernel) rfl
theorem lk_X5_68 : Cond.methodLink RX5 68 yX0_placeOf ∈ gw := gw_t 589 (by decide +kernel) rfl
theorem lk_X5_71 : Cond.methodLink RX5 71 yX0_isNowhereOrUnchanged ∈ gw := gw_t 593 (by decide +kernel) rfl
theorem lk_X0_59 : Cond.methodLink RX0 59 yX0_placeOf ∈ gw := gw_t 597 (by decide +kernel) rfl
theorem lk_X5_75 : Cond.methodLink RX5 75 yX2_changed ∈ gw := gw_t 598 (by decide +kernel) rfl
theorem lk_X5_81 : Cond.methodLink RX5 81 yX0_contentAfter ∈ gw := gw_t 601 (by decide +kernel) rfl
theorem lk_X5_84 : Cond.methodLink RX5 84 yX2_mergeContents ∈ gw := gw_t 605 (by decide +kernel) rfl
theorem lk_X2_9 : Cond.methodLink RX2 9 yX2_changed ∈ gw := gw_t 608 (by decide +kernel) rfl
theorem lk_X5_87 : Cond.methodLink RX5 87 yX5_arrive ∈ gw := gw_t 609 (by decide +kernel) rfl
theorem lk_X5_61 : Cond.methodLink RX5 61 yX5_bringNewFiles ∈ gw := gw_t 613 (by decide +kernel) rfl
theorem lk_X5_90 : Cond.methodLink RX5 90 yX0_newContentAt ∈ gw := gw_t 617 (by decide +kernel) rfl
theorem lk_X5_64 : Cond.methodLink RX5 64 yX5_countCrowdedPaths ∈ gw := gw_t 621 (by decide +kernel) rfl
theorem lk_X6_243 : Cond.methodLink RX6 243 yX5_merged ∈ gw := gw_t 625 (by decide +kernel) rfl
theorem lc_X6_136 : Cond.classLink RX6 136 "java/lang/UnsupportedOperationException" ∈ gw := gw_t 629 (by decide +kernel) rfl
theorem lk_L_145 : Cond.methodLink RL 145 yL_putOnto ∈ gw := gw_t 645 (by decide +kernel) rfl
theorem lk_L_49 : Cond.methodLink RL 49 yX6_putOnto ∈ gw := gw_t 648 (by decide +kernel) rfl
theorem lk_X6_146 : Cond.methodLink RX6 146 yX6_listCommitsNotIn ∈ gw := gw_t 653 (by decide +kernel) rfl
theorem lk_X6_157 : Cond.methodLink RX6 157 yX1_firstParent ∈ gw := gw_t 657 (by decide +kernel) rfl
theorem lk_X6_149 : Cond.methodLink RX6 149 yX6_applyListed ∈ gw := gw_t 658 (by decide +kernel) rfl
theorem lk_X6_247 : Cond.methodLink RX6 247 yJ9_min_7cf53 ∈ gw := gw_t 662 (by decide +kernel) rfl
theorem lk_X6_152 : Cond.methodLink RX6 152 yX1_dropBackTo ∈ gw := gw_t 665 (by decide +kernel) rfl
theorem lk_L_152 : Cond.methodLink RL 152 yL_head ∈ gw := gw_t 669 (by decide +kernel) rfl
theorem lk_L_52 : Cond.methodLink RL 52 yX6_head ∈ gw := gw_t 672 (by decide +kernel) rfl
theorem lk_L_159 : Cond.methodLink RL 159 yL_contentIn ∈ gw := gw_t 676 (by decide +kernel) rfl
theorem lk_L_55 : Cond.methodLink RL 55 yX6_contentIn ∈ gw := gw_t 679 (by decide +kernel) rfl
theorem lk_L_162 : Cond.methodLink RL 162 yL_parentOf ∈ gw := gw_t 683 (by decide +kernel) rfl
theorem lk_L_58 : Cond.methodLink RL 58 yX6_parentOf ∈ gw := gw_t 686 (by decide +kernel) rfl
theorem lk_X6_160 : Cond.methodLink RX6 160 yX1_secondParent ∈ gw := gw_t 691 (by decide +kernel) rfl
theorem lk_L_165 : Cond.methodLink RL 165 yL_generation ∈ gw := gw_t 693 (by decide +kernel) rfl
theorem lk_L_61 : Cond.methodLink RL 61 yX6_generation ∈ gw := gw_t 696 (by decide +kernel) rfl
theorem lk_X6_168 : Cond.methodLink RX6 168 yX1_generationAt ∈ gw := gw_t 700 (by decide +kernel) rfl
theorem lk_L_168 : Cond.methodLink RL 168 yL_isAncestor ∈ gw := gw_t 701 (by decide +kernel) rfl
theorem lk_L_64 : Cond.methodLink RL 64 yX6_isAncestor ∈ gw := gw_t 704 (by decide +kernel) rfl
theorem lk_L_171 : Cond.methodLink RL 171 yL_isAncestorByWalking ∈ gw := gw_t 708 (by decide +kernel) rfl
theorem lk_L_68 : Cond.methodLink RL 68 yX6_isAncestorByWalking ∈ gw := gw_t 711 (by decide +kernel) rfl
theorem lk_X6_171 : Cond.methodLink RX6 171 yX1_walkMeets ∈ gw := gw_t 715 (by decide +kernel) rfl
theorem lk_X1_95 : Cond.methodLink RX1 95 yX1_clearMarks ∈ gw := gw_t 719 (by decide +kernel) rfl
theorem lk_X1_98 : Cond.methodLink RX1 98 yX1_mark ∈ gw := gw_t 723 (by decide +kernel) rfl
theorem lk_X1_102 : Cond.methodLink RX1 102 yX1_markParents ∈ gw := gw_t 727 (by decide +kernel) rfl
theorem lk_X1_106 : Cond.methodLink RX1 106 yX1_marksAt ∈ gw := gw_t 731 (by decide +kernel) rfl
theorem lk_L_174 : Cond.methodLink RL 174 yL_base ∈ gw := gw_t 735 (by decide +kernel) rfl
theorem lk_L_71 : Cond.methodLink RL 71 yX6_base ∈ gw := gw_t 738 (by decide +kernel) rfl
theorem lk_L_177 : Cond.methodLink RL 177 yL_baseByWalking ∈ gw := gw_t 742 (by decide +kernel) rfl
theorem lk_L_74 : Cond.methodLink RL 74 yX6_baseByWalking ∈ gw := gw_t 745 (by decide +kernel) rfl
theorem lk_X6_177 : Cond.methodLink RX6 177 yX1_walkToBestBase ∈ gw := gw_t 749 (by decide +kernel) rfl
theorem lk_L_180 : Cond.methodLink RL 180 yL_bases ∈ gw := gw_t 753 (by decide +kernel) rfl
theorem lk_L_77 : Cond.methodLink RL 77 yX6_bases ∈ gw := gw_t 756 (by decide +kernel) rfl
theorem lk_X6_180 : Cond.methodLink RX6 180 yX1_countBases ∈ gw := gw_t 760 (by decide +kernel) rfl
theorem ll_X1_87 : Cond.constantLong RX1 87 (-1) ∈ gw := gw_t 764 (by decide +kernel) rfl
theorem lk_X1_89 : Cond.methodLink RX1 89 yJ13_bitCount_95d88 ∈ gw := gw_t 765 (by decide +kernel) rfl
theorem ll_J13_314 : Cond.constantLong RJ13 314 (6148914691236517205) ∈ gw := gw_t 768 (by decide +kernel) rfl
theorem ll_J13_316 : Cond.constantLong RJ13 316 (3689348814741910323) ∈ gw := gw_t 769 (by decide +kernel) rfl
theorem ll_J13_318 : Cond.constantLong RJ13 318 (1085102592571150095) ∈ gw := gw_t 770 (by decide +kernel) rfl
theorem lk_L_183 : Cond.methodLink RL 183 yL_movedTo ∈ gw := gw_t 771 (by decide +kernel) rfl
theorem lk_L_80 : Cond.methodLink RL 80 yX6_movedTo ∈ gw := gw_t 774 (by decide +kernel) rfl
theorem lk_X6_183 : Cond.methodLink RX6 183 yX5_moveBetween ∈ gw := gw_t 778 (by decide +kernel) rfl
theorem lk_X5_36 : Cond.methodLink RX5 36 yX0_target ∈ gw := gw_t 782 (by decide +kernel) rfl
theorem lk_L_187 : Cond.methodLink RL 187 yL_conflicts ∈ gw := gw_t 784 (by decide +kernel) rfl
theorem lk_L_84 : Cond.methodLink RL 84 yX6_conflicts ∈ gw := gw_t 787 (by decide +kernel) rfl
theorem lk_L_190 : Cond.methodLink RL 190 yL_lastChange ∈ gw := gw_t 791 (by decide +kernel) rfl
theorem lk_L_87 : Cond.methodLink RL 87 yX6_lastChange ∈ gw := gw_t 794 (by decide +kernel) rfl
theorem lk_X6_193 : Cond.methodLink RX6 193 yX1_lastChangeAt ∈ gw := gw_t 798 (by decide +kernel) rfl
theorem lk_X1_109 : Cond.methodLink RX1 109 yX4_at ∈ gw := gw_t 802 (by decide +kernel) rfl
theorem lk_L_197 : Cond.methodLink RL 197 yL_depthOf ∈ gw := gw_t 804 (by decide +kernel) rfl
theorem lk_L_90 : Cond.methodLink RL 90 yX6_depthOf ∈ gw := gw_t 807 (by decide +kernel) rfl
theorem lk_X6_199 : Cond.methodLink RX6 199 yX3_find ∈ gw := gw_t 811 (by decide +kernel) rfl
theorem lk_X6_202 : Cond.methodLink RX6 202 yX3_depthAt ∈ gw := gw_t 812 (by decide +kernel) rfl
theorem lk_X3_29 : Cond.methodLink RX3 29 yX3_hasPlace ∈ gw := gw_t 816 (by decide +kernel) rfl
theorem lk_L_200 : Cond.methodLink RL 200 yL_packedFrom ∈ gw := gw_t 821 (by decide +kernel) rfl
theorem lk_L_93 : Cond.methodLink RL 93 yX6_packedFrom ∈ gw := gw_t 824 (by decide +kernel) rfl
theorem lk_X6_207 : Cond.methodLink RX6 207 yX3_sourceAt ∈ gw := gw_t 828 (by decide +kernel) rfl
theorem lk_L_208 : Cond.methodLink RL 208 yL_packShare ∈ gw := gw_t 833 (by decide +kernel) rfl
theorem lc_L_100 : Cond.classLink RL 100 "java/lang/ArithmeticException" ∈ gw := gw_t 836 (by decide +kernel) rfl
theorem lk_L_96 : Cond.methodLink RL 96 yX6_packShare ∈ gw := gw_t 850 (by decide +kernel) rfl
theorem ll_X6_216 : Cond.constantLong RX6 216 (4) ∈ gw := gw_t 854 (by decide +kernel) rfl
theorem lc_X6_218 : Cond.classLink RX6 218 "java/lang/ArithmeticException" ∈ gw := gw_t 855 (by decide +kernel) rfl
theorem lc_L_103 : Cond.classLink RL 103 "ForkHallModel" ∈ gw := gw_t 858 (by decide +kernel) rfl
theorem nX7 : Cond.instantiable RX7 25 ∈ gw := gw_t 859 (by decide +kernel) rfl
theorem lk_L_105 : Cond.methodLink RL 105 yX7_init ∈ gw := gw_t 860 (by decide +kernel) rfl
theorem lk_X7_1 : Cond.methodLink RX7 1 Lib.objectInit ∈ gw := gw_t 863 (by decide +kernel) rfl
theorem lc_X7_9 : Cond.classLink RX7 9 "[[I" ∈ gw := gw_t 864 (by decide +kernel) rfl
theorem lf_X7_11 : Cond.fieldLink RX7 11 RX7 (TX7 0).2.1 (TX7 0).2.2.1 ∈ gw := gw_t 866 (by decide +kernel) rfl
theorem lf_X7_14 : Cond.fieldLink RX7 14 RX7 (TX7 1).2.1 (TX7 1).2.2.1 ∈ gw := gw_t 867 (by decide +kernel) rfl
theorem lf_X7_18 : Cond.fieldLink RX7 18 RX7 (TX7 2).2.1 (TX7 2).2.2.1 ∈ gw := gw_t 868 (by decide +kernel) rfl
theorem lf_X7_21 : Cond.fieldLink RX7 21 RX7 (TX7 3).2.1 (TX7 3).2.2.1 ∈ gw := gw_t 869 (by decide +kernel) rfl
theorem lf_X7_25 : Cond.fieldLink RX7 25 RX7 (TX7 4).2.1 (TX7 4).2.2.1 ∈ gw := gw_t 870 (by decide +kernel) rfl
theorem lf_X7_95 : Cond.fieldLink RX7 95 RX7 (TX7 5).2.1 (TX7 5).2.2.1 ∈ gw := gw_t 871 (by decide +kernel) rfl
theorem lf_X7_28 : Cond.fieldLink RX7 28 RX7 (TX7 6).2.1 (TX7 6).2.2.1 ∈ gw := gw_t 872 (by decide +kernel) rfl
theorem lf_X7_77 : Cond.fieldLink RX7 77 RX7 (TX7 7).2.1 (TX7 7).2.2.1 ∈ gw := gw_t 873 (by decide +kernel) rfl
theorem lf_X7_31 : Cond.fieldLink RX7 31 RX7 (TX7 8).2.1 (TX7 8).2.2.1 ∈ gw := gw_t 874 (by decide +kernel) rfl
theorem lf_X7_34 : Cond.fieldLink RX7 34 RX7 (TX7 9).2.1 (TX7 9).2.2.1 ∈ gw := gw_t 875 (by decide +kernel) rfl
theorem lf_X7_37 : Cond.fieldLink RX7 37 RX7 (TX7 10).2.1 (TX7 10).2.2.1 ∈ gw := gw_t 876 (by decide +kernel) rfl
theorem lf_X7_40 : Cond.fieldLink RX7 40 RX7 (TX7 11).2.1 (TX7 11).2.2.1 ∈ gw := gw_t 877 (by decide +kernel) rfl
theorem lf_X7_154 : Cond.fieldLink RX7 154 RX7 (TX7 12).2.1 (TX7 12).2.2.1 ∈ gw := gw_t 878 (by decide +kernel) rfl
theorem lf_X7_43 : Cond.fieldLink RX7 43 RX7 (TX7 13).2.1 (TX7 13).2.2.1 ∈ gw := gw_t 879 (by decide +kernel) rfl
theorem lf_X7_46 : Cond.fieldLink RX7 46 RX7 (TX7 14).2.1 (TX7 14).2.2.1 ∈ gw := gw_t 880 (by decide +kernel) rfl
theorem lf_X7_49 : Cond.fieldLink RX7 49 RX7 (TX7 15).2.1 (TX7 15).2.2.1 ∈ gw := gw_t 881 (by decide +kernel) rfl
theorem lf_X7_53 : Cond.fieldLink RX7 53 RX7 (TX7 16).2.1 (TX7 16).2.2.1 ∈ gw := gw_t 882 (by decide +kernel) rfl
theorem lf_X7_56 : Cond.fieldLink RX7 56 RX7 (TX7 17).2.1 (TX7 17).2.2.1 ∈ gw := gw_t 883 (by decide +kernel) rfl
theorem lf_X7_59 : Cond.fieldLink RX7 59 RX7 (TX7 18).2.1 (TX7 18).2.2.1 ∈ gw := gw_t 884 (by decide +kernel) rfl
theorem lf_X7_62 : Cond.fieldLink RX7 62 RX7 (TX7 19).2.1 (TX7 19).2.2.1 ∈ gw := gw_t 885 (by decide +kernel) rfl
theorem lf_X7_195 : Cond.fieldLink RX7 195 RX7 (TX7 20).2.1 (TX7 20).2.2.1 ∈ gw := gw_t 886 (by decide +kernel) rfl
theorem lf_X7_65 : Cond.fieldLink RX7 65 RX7 (TX7 21).2.1 (TX7 21).2.2.1 ∈ gw := gw_t 887 (by decide +kernel) rfl
theorem lf_X7_68 : Cond.fieldLink RX7 68 RX7 (TX7 22).2.1 (TX7 22).2.2.1 ∈ gw := gw_t 888 (by decide +kernel) rfl
theorem lf_X7_71 : Cond.fieldLink RX7 71 RX7 (TX7 23).2.1 (TX7 23).2.2.1 ∈ gw := gw_t 889 (by decide +kernel) rfl
theorem lf_X7_74 : Cond.fieldLink RX7 74 RX7 (TX7 24).2.1 (TX7 24).2.2.1 ∈ gw := gw_t 890 (by decide +kernel) rfl
theorem na_boolean : Cond.arrayClass .boolean ∈ gw := gw_t 942 (by decide +kernel) rfl
theorem lk_L_112 : Cond.methodLink RL 112 yX7_thrown ∈ gw := gw_t 943 (by decide +kernel) rfl
theorem lk_L_111 : Cond.methodLink RL 111 yX7_write ∈ gw := gw_t 947 (by decide +kernel) rfl
theorem lk_X7_84 : Cond.methodLink RX7 84 yX7_isPath ∈ gw := gw_t 951 (by decide +kernel) rfl
theorem lk_X7_80 : Cond.methodLink RX7 80 yX7_in ∈ gw := gw_t 954 (by decide +kernel) rfl
theorem lk_L_118 : Cond.methodLink RL 118 yX7_erase ∈ gw := gw_t 957 (by decide +kernel) rfl
theorem lk_X7_88 : Cond.methodLink RX7 88 yX7_lacks ∈ gw := gw_t 961 (by decide +kernel) rfl
theorem lk_L_121 : Cond.methodLink RL 121 yX7_move ∈ gw := gw_t 965 (by decide +kernel) rfl
theorem lk_X7_91 : Cond.methodLink RX7 91 yX7_raises ∈ gw := gw_t 969 (by decide +kernel) rfl
theorem lk_L_124 : Cond.methodLink RL 124 yX7_content ∈ gw := gw_t 973 (by decide +kernel) rfl
theorem lk_L_128 : Cond.methodLink RL 128 yX7_changedPaths ∈ gw := gw_t 977 (by decide +kernel) rfl
theorem lk_X7_98 : Cond.methodLink RX7 98 yX7_changed ∈ gw := gw_t 981 (by decide +kernel) rfl
theorem lk_L_132 : Cond.methodLink RL 132 yX7_commit ∈ gw := gw_t 985 (by decide +kernel) rfl
theorem lk_X7_106 : Cond.methodLink RX7 106 yX7_made ∈ gw := gw_t 989 (by decide +kernel) rfl
theorem lk_X7_102 : Cond.methodLink RX7 102 yX7_isSame ∈ gw := gw_t 993 (by decide +kernel) rfl
theorem lk_L_135 : Cond.methodLink RL 135 yX7_branch ∈ gw := gw_t 996 (by decide +kernel) rfl
theorem lk_L_138 : Cond.methodLink RL 138 yX7_checkOut ∈ gw := gw_t 1000 (by decide +kernel) rfl
theorem lk_X7_110 : Cond.methodLink RX7 110 yX7_isNone ∈ gw := gw_t 1004 (by decide +kernel) rfl
theorem lk_X7_113 : Cond.methodLink RX7 113 yX7_becomes ∈ gw := gw_t 1008 (by decide +kernel) rfl
theorem lk_L_141 : Cond.methodLink RL 141 yX7_reset ∈ gw := gw_t 1012 (by decide +kernel) rfl
theorem lk_X7_117 : Cond.methodLink RX7 117 yX7_isCommit ∈ gw := gw_t 1016 (by decide +kernel) rfl
theorem lk_L_144 : Cond.methodLink RL 144 yX7_merge ∈ gw := gw_t 1020 (by decide +kernel) rfl
theorem lk_X7_164 : Cond.methodLink RX7 164 yX7_isAbove ∈ gw := gw_t 1024 (by decide +kernel) rfl
theorem lk_X7_120 : Cond.methodLink RX7 120 yX7_findsAbove ∈ gw := gw_t 1028 (by decide +kernel) rfl
theorem lk_X7_168 : Cond.methodLink RX7 168 yX7_bestBase ∈ gw := gw_t 1032 (by decide +kernel) rfl
theorem lk_X7_124 : Cond.methodLink RX7 124 yX7_findsBases ∈ gw := gw_t 1036 (by decide +kernel) rfl
theorem lk_X7_171 : Cond.methodLink RX7 171 yX7_merges ∈ gw := gw_t 1040 (by decide +kernel) rfl
theorem lk_X7_150 : Cond.methodLink RX7 150 yX7_findsMoves ∈ gw := gw_t 1044 (by decide +kernel) rfl
theorem lk_X7_131 : Cond.methodLink RX7 131 yX7_isTarget ∈ gw := gw_t 1048 (by decide +kernel) rfl
theorem lk_X7_135 : Cond.methodLink RX7 135 yX7_likeness ∈ gw := gw_t 1051 (by decide +kernel) rfl
theorem lk_X7_128 : Cond.methodLink RX7 128 yX7_line ∈ gw := gw_t 1054 (by decide +kernel) rfl
theorem lk_X7_157 : Cond.methodLink RX7 157 yX7_follows ∈ gw := gw_t 1057 (by decide +kernel) rfl
theorem lk_X7_138 : Cond.methodLink RX7 138 yX7_placeOf ∈ gw := gw_t 1061 (by decide +kernel) rfl
theorem lk_X7_142 : Cond.methodLink RX7 142 yX7_joined ∈ gw := gw_t 1064 (by decide +kernel) rfl
theorem lk_X7_146 : Cond.methodLink RX7 146 yX7_comes ∈ gw := gw_t 1067 (by decide +kernel) rfl
theorem lk_X7_161 : Cond.methodLink RX7 161 yX7_isNew ∈ gw := gw_t 1071 (by decide +kernel) rfl
theorem lk_L_147 : Cond.methodLink RL 147 yX7_putOnto ∈ gw := gw_t 1074 (by decide +kernel) rfl
theorem lk_X7_175 : Cond.methodLink RX7 175 yX7_applied ∈ gw := gw_t 1078 (by decide +kernel) rfl
theorem lk_L_151 : Cond.methodLink RL 151 yX7_currentBranch ∈ gw := gw_t 1082 (by decide +kernel) rfl
theorem lk_L_154 : Cond.methodLink RL 154 yX7_head ∈ gw := gw_t 1086 (by decide +kernel) rfl
theorem lk_L_158 : Cond.methodLink RL 158 yX7_commits ∈ gw := gw_t 1090 (by decide +kernel) rfl
theorem lk_L_161 : Cond.methodLink RL 161 yX7_contentIn ∈ gw := gw_t 1094 (by decide +kernel) rfl
theorem lk_L_164 : Cond.methodLink RL 164 yX7_parentOf ∈ gw := gw_t 1098 (by decide +kernel) rfl
theorem lk_L_167 : Cond.methodLink RL 167 yX7_generation ∈ gw := gw_t 1102 (by decide +kernel) rfl
theorem lk_X7_183 : Cond.methodLink RX7 183 yX7_findsGenerations ∈ gw := gw_t 1106 (by decide +kernel) rfl
theorem lk_X7_178 : Cond.methodLink RX7 178 yJ9_max_7cf53 ∈ gw := gw_t 1110 (by decide +kernel) rfl
theorem lk_L_170 : Cond.methodLink RL 170 yX7_isAncestor ∈ gw := gw_t 1111 (by decide +kernel) rfl
theorem lk_X7_186 : Cond.methodLink RX7 186 yX7_areCommits ∈ gw := gw_t 1115 (by decide +kernel) rfl
theorem lk_L_173 : Cond.methodLink RL 173 yX7_isAncestorByWalking ∈ gw := gw_t 1119 (by decide +kernel) rfl
theorem lk_X7_189 : Cond.methodLink RX7 189 yX7_isAncestor ∈ gw := gw_t 1123 (by decide +kernel) rfl
theorem lk_L_176 : Cond.methodLink RL 176 yX7_base ∈ gw := gw_t 1124 (by decide +kernel) rfl
theorem lk_L_179 : Cond.methodLink RL 179 yX7_baseByWalking ∈ gw := gw_t 1128 (by decide +kernel) rfl
theorem lk_X7_192 : Cond.methodLink RX7 192 yX7_base ∈ gw := gw_t 1132 (by decide +kernel) rfl
theorem lk_L_182 : Cond.methodLink RL 182 yX7_bases ∈ gw := gw_t 1133 (by decide +kernel) rfl
theorem lk_L_186 : Cond.methodLink RL 186 yX7_movedTo ∈ gw := gw_t 1137 (by decide +kernel) rfl
theorem lk_L_189 : Cond.methodLink RL 189 yX7_conflicts ∈ gw := gw_t 1141 (by decide +kernel) rfl
theorem lk_L_192 : Cond.methodLink RL 192 yX7_lastChange ∈ gw := gw_t 1145 (by decide +kernel) rfl
theorem lk_L_196 : Cond.methodLink RL 196 yX7_packed ∈ gw := gw_t 1149 (by decide +kernel) rfl
theorem lk_X7_204 : Cond.methodLink RX7 204 yX7_packsAll ∈ gw := gw_t 1153 (by decide +kernel) rfl
theorem lk_X7_198 : Cond.methodLink RX7 198 yX7_packedAt ∈ gw := gw_t 1157 (by decide +kernel) rfl
theorem lk_X7_201 : Cond.methodLink RX7 201 yX7_packs ∈ gw := gw_t 1161 (by decide +kernel) rfl
theorem lk_L_199 : Cond.methodLink RL 199 yX7_depthOf ∈ gw := gw_t 1165 (by decide +kernel) rfl
theorem lk_L_202 : Cond.methodLink RL 202 yX7_packedFrom ∈ gw := gw_t 1169 (by decide +kernel) rfl
theorem lk_L_207 : Cond.methodLink RL 207 yX7_packSize ∈ gw := gw_t 1173 (by decide +kernel) rfl
theorem lk_X7_207 : Cond.methodLink RX7 207 yX7_sum ∈ gw := gw_t 1177 (by decide +kernel) rfl
theorem lk_L_211 : Cond.methodLink RL 211 yX7_packShare ∈ gw := gw_t 1181 (by decide +kernel) rfl
theorem lk_L_216 : Cond.methodLink RL 216 yX7_meanFiles ∈ gw := gw_t 1185 (by decide +kernel) rfl
theorem na_double : Cond.arrayClass .double ∈ gw := gw_t 1189 (by decide +kernel) rfl
theorem zL : Cond.initialized RL ∈ gw := gw_t 0 (by decide +kernel) rfl
theorem zX6 : Cond.initialized RX6 ∈ gw := gw_t 1 (by decide +kernel) rfl
theorem zX1 : Cond.initialized RX1 ∈ gw := gw_t 2 (by decide +kernel) rfl
theorem zX4 : Cond.initialized RX4 ∈ gw := gw_t 3 (by decide +kernel) rfl
theorem zX5 : Cond.initialized RX5 ∈ gw := gw_t 4 (by decide +kernel) rfl
theorem zX0 : Cond.initialized RX0 ∈ gw := gw_t 5 (by decide +kernel) rfl
theorem zX3 : Cond.initialized RX3 ∈ gw := gw_t 6 (by decide +kernel) rfl
theorem zX7 : Cond.initialized RX7 ∈ gw := gw_t 7 (by decide +kernel) rfl
theorem z_Exception : Cond.initialized "java/lang/Exception" ∈ gw := gw_t 9 (by decide +kernel) rfl
theorem z_RuntimeException : Cond.initialized "java/lang/RuntimeException" ∈ gw := gw_t 10 (by decide +kernel) rfl
theorem z_IndexOutOfBoundsException : Cond.initialized "java/lang/IndexOutOfBoundsException" ∈ gw := gw_t 11 (by decide +kernel) rfl
theorem zJx00060 : Cond.initialized RJx00060 ∈ gw := gw_t 12 (by decide +kernel) rfl
theorem zJ0 : Cond.initialized RJ0 ∈ gw := gw_t 13 (by decide +kernel) rfl
theorem z_IllegalArgumentException : Cond.initialized "java/lang/IllegalArgumentException" ∈ gw := gw_t 14 (by decide +kernel) rfl
theorem z_NoSuchElementException : Cond.initialized "java/util/NoSuchElementException" ∈ gw := gw_t 15 (by decide +kernel) rfl
theorem z_IllegalStateException : Cond.initialized "java/lang/IllegalStateException" ∈ gw := gw_t 16 (by decide +kernel) rfl
theorem zJ9 : Cond.initialized RJ9 ∈ gw := gw_t 17 (by decide +kernel) rfl
theorem zX2 : Cond.initialized RX2 ∈ gw := gw_t 18 (by decide +kernel) rfl
theorem z_UnsupportedOperationException : Cond.initialized "java/lang/UnsupportedOperationException" ∈ gw := gw_t 19 (by decide +kernel) rfl
theorem zJ13 : Cond.initialized RJ13 ∈ gw := gw_t 20 (by decide +kernel) rfl
theorem z_ArithmeticException : Cond.initialized "java/lang/ArithmeticException" ∈ gw := gw_t 21 (by decide +kernel) rfl
theorem iObj : Cond.instanceMethod Lib.objectInit ∈ gw := gw_t 28 (by decide +kernel) rfl
theorem cObj : Cond.code Lib.objectInit ⟨#[0xb1]⟩ 1 none ∈ gw := gw_t 29 (by decide +kernel) rfl
end
section
/-! what can change: rows of ints (and booleans), rows of longs, int fields by object and place, the long field, the doubles -/
abbrev gMem : Type := (Nat → Nat → Int32) × (Nat → Nat → Int64) × (Nat → Nat → Int32) × Int64 × (Nat → UInt64)
abbrev mL (M : gMem) : Nat → Nat → Int64 := M.2.1
abbrev mF (M : gMem) : Nat → Nat → Int32 := M.2.2.1
abbrev mS (M : gMem) : Int64 := M.2.2.2.1
abbrev mD (M : gMem) : Nat → UInt64 := M.2.2.2.2
def sI (M : gMem) (o : Nat) (f : Nat → Int32) : gMem := (va_up M.1 o f, M.2)
def sL (M : gMem) (o : Nat) (f : Nat → Int64) : gMem := (M.1, va_up M.2.1 o f, M.2.2)
def sF (M : gMem) (o j : Nat) (v : Int32) : gMem := (M.1, M.2.1, va_up M.2.2.1 o (va_up (M.2.2.1 o) j v), M.2.2.2)
def sS (M : gMem) (v : Int64) : gMem := (M.1, M.2.1, M.2.2.1, v, M.2.2.2.2)
def sD (M : gMem) (f : Nat → UInt64) : gMem := (M.1, M.2.1, M.2.2.1, M.2.2.2.1, f)
theorem sI_I (M : gMem) (o : Nat) (f : Nat → Int32) (a : Nat) : (sI M o f).1 a = if a = o then f else M.1 a := rfl
theorem sI_s (M : gMem) (o : Nat) (f : Nat → Int32) : (sI M o f).1 o = f := if_pos rfl
theorem sI_n (M : gMem) {o : Nat} (f : Nat → Int32) {a : Nat} (h : a ≠ o) : (sI M o f).1 a = M.1 a := if_neg h
theorem sI_2 (M : gMem) (o : Nat) (f : Nat → Int32) : (sI M o f).2 = M.2 := rfl
theorem sL_1 (M : gMem) (o : Nat) (f : Nat → Int64) : (sL M o f).1 = M.1 := rfl
theorem sL_L (M : gMem) (o : Nat) (f : Nat → Int64) (a : Nat) : (sL M o f).2.1 a = if a = o then f else M.2.1 a := rfl
theorem sL_22 (M : gMem) (o : Nat) (f : Nat → Int64) : (sL M o f).2.2 = M.2.2 := rfl
theorem sF_1 (M : gMem) (o j : Nat) (v : Int32) : (sF M o j v).1 = M.1 := rfl
theorem sF_L (M : gMem) (o j : Nat) (v : Int32) : (sF M o j v).2.1 = M.2.1 := rfl
theorem sF_F (M : gMem) (o j : Nat) (v : Int32) (a i : Nat) : (sF M o j v).2.2.1 a i = if a = o then (if i = j then v else M.2.2.1 o i) else M.2.2.1 a i := by
  show va_up M.2.2.1 o (va_up (M.2.2.1 o) j v) a i = _
  unfold va_up
  by_cases h : a = o
  · rw [if_pos h, if_pos h]
  · rw [if_neg h, if_neg h]
theorem sF_222 (M : gMem) (o j : Nat) (v : Int32) : (sF M o j v).2.2.2 = M.2.2.2 := rfl
theorem sS_1 (M : gMem) (v : Int64) : (sS M v).1 = M.1 := rfl
theorem sS_L (M : gMem) (v : Int64) : (sS M v).2.1 = M.2.1 := rfl
theorem sS_F (M : gMem) (v : Int64) : (sS M v).2.2.1 = M.2.2.1 := rfl
theorem sS_S (M : gMem) (v : Int64) : (sS M v).2.2.2.1 = v := rfl
theorem sS_D (M : gMem) (v : Int64) : (sS M v).2.2.2.2 = M.2.2.2.2 := rfl
theorem sD_1 (M : gMem) (f : Nat → UInt64) : (sD M f).1 = M.1 := rfl
theorem sD_L (M : gMem) (f : Nat → UInt64) : (sD M f).2.1 = M.2.1 := rfl
theorem sD_F (M : gMem) (f : Nat → UInt64) : (sD M f).2.2.1 = M.2.2.1 := rfl
theorem sD_S (M : gMem) (f : Nat → UInt64) : (sD M f).2.2.2.1 = M.2.2.2.1 := rfl
theorem sD_D (M : gMem) (f : Nat → UInt64) : (sD M f).2.2.2.2 = f := rfl
theorem sI_sI (M : gMem) (o : Nat) (f g : Nat → Int32) : sI (sI M o f) o g = sI M o g := by
  show (va_up (va_up M.1 o f) o g, M.2) = _
  rw [bx_uu]
  rfl
theorem sI_id (M : gMem) (o : Nat) : sI M o (M.1 o) = M := by
  show (va_up M.1 o (M.1 o), M.2) = M
  have : va_up M.1 o (M.1 o) = M.1 := funext fun a => by
    unfold va_up
    by_cases h : a = o
    · rw [if_pos h, h]
    · rw [if_neg h]
  rw [this]
/-! the cells by their offsets -/
def gKt : List (Nat × Nat × Nat) := [(0, 6, 7), (1, 6, 3), (2, 4, 60), (3, 6, 5), (4, 0, 8), (5, 0, 60), (6, 0, 60), (7, 0, 60), (8, 1, 60), (9, 0, 60), (130, 6, 6), (131, 6, 2), (132, 6, 5), (133, 0, 8), (134, 6, 5), (135, 0, 8), (136, 0, 8), (137, 0, 8), (138, 6, 2), (139, 6, 5), (140, 0, 8), (141, 6, 5), (142, 0, 8), (143, 0, 8), (144, 0, 8), (145, 6, 5), (146, 0, 8), (147, 0, 8), (148, 6, 4), (149, 0, 480), (150, 0, 480), (151, 0, 480), (152, 6, 5), (153, 0, 8), (154, 0, 5), (155, 0, 60), (156, 6, 8), (157, 5, 60), (218, 0, 60), (219, 0, 60), (220, 0, 5), (221, 0, 8), (222, 0, 8), (223, 0, 8), (224, 0, 8), (225, 0, 8), (226, 0, 60), (227, 0, 8), (228, 2, 60), (229, 0, 480), (230, 0, 480), (231, 0, 480), (232, 0, 480), (233, 2, 60), (234, 2, 60), (235, 2, 60), (236, 0, 60), (237, 1, 1), (238, 3, 1)]
def gKl : List (Nat × Nat × Nat) → Nat → Nat × Nat
  | [], _ => (9, 0)
  | (a, x) :: t, o => if a = o then x else gKl t o
def gKd (o : Nat) : Nat × Nat := if 10 ≤ o ∧ o < 130 then (if o % 2 = 0 then (6, 5) else (0, 8)) else if 158 ≤ o ∧ o < 218 then (0, 8) else gKl gKt o
def gFs (b : Nat) (F : Nat → Nat → Int32) (S : Int64) (o : Nat) : List Value :=
  if o = 0 then [.ref (b + 1), .ref (b + 130), .ref (b + 148), .ref (b + 152), .ref (b + 154), .ref (b + 155), .int (F 0 6)]
  else if o = 1 then [.ref (b + 2), .ref (b + 3), .ref (b + 5), .ref (b + 6), .ref (b + 7), .ref (b + 8), .ref (b + 9), .int (F 1 7)]
  else if o = 130 then [.ref (b + 131), .ref (b + 138), .ref (b + 145), .ref (b + 147), .int (F 130 4)]
  else if o = 131 then [.ref (b + 132), .ref (b + 134), .ref (b + 136), .ref (b + 137)]
  else if o = 138 then [.ref (b + 139), .ref (b + 141), .ref (b + 143), .ref (b + 144)]
  else if o = 148 then [.ref (b + 149), .ref (b + 150), .ref (b + 151), .int (F 148 3), .int (F 148 4), .long S]
  else if o = 156 then [.ref (b + 157), .ref (b + 218), .ref (b + 219), .int (F 156 3), .ref (b + 220), .int (F 156 5), .ref (b + 221), .int (F 156 7), .ref (b + 222), .ref (b + 223), .ref (b + 224), .ref (b + 225), .int (F 156 12), .ref (b + 226), .ref (b + 227), .ref (b + 228), .ref (b + 229), .ref (b + 230), .ref (b + 231), .ref (b + 232), .int (F 156 20), .ref (b + 233), .ref (b + 234), .ref (b + 235), .ref (b + 236)]
  else [.ref (b + (o + 1))]
def mkW (G : gG) (M : gMem) : gE := fun o => match gKd o with
  | (0, m) => .inl (G.2.2.1 0, m, .inl (M.1 o))
  | (1, m) => .inl (G.2.2.1 1, m, .inr (.inl (M.2.1 o)))
  | (2, m) => .inl (G.2.2.1 2, m, .inl (M.1 o))
  | (3, m) => .inl (G.2.2.1 3, m, .inr (.inr (.inr (.inl M.2.2.2.2))))
  | (4, m) => .inl (G.2.2.1 4, m, .inr (.inr (.inr (.inr (fun c => if c < 60 then some (gb G + (10 + 2 * c)) else none)))))
  | (5, m) => .inl (G.2.2.1 5, m, .inr (.inr (.inr (.inr (fun c => if c < 60 then some (gb G + (158 + c)) else none)))))
  | (_, ci) => .inr (ci, gFs (gb G) M.2.2.1 M.2.2.2.1 o)
theorem mk0 (G : gG) (M : gMem) {o m : Nat} (h : gKd o = (0, m)) : mkW G M o = .inl (G.2.2.1 0, m, .inl (M.1 o)) := by unfold mkW; rw [h]; rfl
theorem mk1 (G : gG) (M : gMem) {o m : Nat} (h : gKd o = (1, m)) : mkW G M o = .inl (G.2.2.1 1, m, .inr (.inl (M.2.1 o))) := by unfold mkW; rw [h]; rfl
theorem mk2 (G : gG) (M : gMem) {o m : Nat} (h : gKd o = (2, m)) : mkW G M o = .inl (G.2.2.1 2, m, .inl (M.1 o)) := by unfold mkW; rw [h]; rfl
theorem mk3 (G : gG) (M : gMem) {o m : Nat} (h : gKd o = (3, m)) : mkW G M o = .inl (G.2.2.1 3, m, .inr (.inr (.inr (.inl M.2.2.2.2)))) := by unfold mkW; rw [h]; rfl
theorem mk6 (G : gG) (M : gMem) {o ci : Nat} (h : gKd o = (6, ci)) : mkW G M o = .inr (ci, gFs (gb G) M.2.2.1 M.2.2.2.1 o) := by unfold mkW; rw [h]; rfl
theorem up0 (G : gG) (M : gMem) {o m : Nat} (h : gKd o = (0, m)) (f : Nat → Int32) : va_up (mkW G M) o (.inl (G.2.2.1 0, m, .inl f)) = mkW G (sI M o f) := by
  funext a
  by_cases c : a = o
  · subst c
    rw [mk0 G (sI M a f) h, sI_s]
    exact if_pos rfl
  · rw [show va_up (mkW G M) o (.inl (G.2.2.1 0, m, .inl f)) a = mkW G M a from if_neg c]
    unfold mkW
    rw [sI_n M f c, sI_2]
theorem up2 (G : gG) (M : gMem) {o m : Nat} (h : gKd o = (2, m)) (f : Nat → Int32) : va_up (mkW G M) o (.inl (G.2.2.1 2, m, .inl f)) = mkW G (sI M o f) := by
  funext a
  by_cases c : a = o
  · subst c
    rw [mk2 G (sI M a f) h, sI_s]
    exact if_pos rfl
  · rw [show va_up (mkW G M) o (.inl (G.2.2.1 2, m, .inl f)) a = mkW G M a from if_neg c]
    unfold mkW
    rw [sI_n M f c, sI_2]
theorem up1 (G : gG) (M : gMem) {o m : Nat} (h : gKd o = (1, m)) (f : Nat → Int64) : va_up (mkW G M) o (.inl (G.2.2.1 1, m, .inr (.inl f))) = mkW G (sL M o f) := by
  funext a
  by_cases c : a = o
  · subst c
    rw [mk1 G (sL M a f) h, sL_L, if_pos rfl]
    exact if_pos rfl
  · rw [show va_up (mkW G M) o (.inl (G.2.2.1 1, m, .inr (.inl f))) a = mkW G M a from if_neg c]
    unfold mkW
    rw [sL_L, if_neg c, sL_1, sL_22]
theorem gFs_loc {b : Nat} {F F' : Nat → Nat → Int32} {S S' : Int64} {a : Nat} (h : ∀ j, F a j = F' a j) (hS : a = 148 → S = S') : gFs b F S a = gFs b F' S' a := by
  unfold gFs
  repeat' split
  all_goals first | rfl | (subst_vars; simp only [h, hS])
theorem up6 (G : gG) (M : gMem) {o ci j : Nat} {v : Int32} (h : gKd o = (6, ci)) (hs : (gFs (gb G) M.2.2.1 M.2.2.2.1 o).set j (.int v) = gFs (gb G) (sF M o j v).2.2.1 M.2.2.2.1 o) : va_up (mkW G M) o (.inr (ci, (gFs (gb G) M.2.2.1 M.2.2.2.1 o).set j (.int v))) = mkW G (sF M o j v) := by
  funext a
  by_cases c : a = o
  · subst c
    rw [mk6 G (sF M a j v) h, hs, sF_222]
    exact if_pos rfl
  · rw [show va_up (mkW G M) o (.inr (ci, (gFs (gb G) M.2.2.1 M.2.2.2.1 o).set j (.int v))) a = mkW G M a from if_neg c]
    have e : gFs (gb G) M.2.2.1 M.2.2.2.1 a = gFs (gb G) (sF M o j v).2.2.1 (sF M o j v).2.2.2.1 a := gFs_loc (fun i => by rw [sF_F, if_neg c]) (fun _ => rfl)
    unfold mkW
    rw [sF_1, sF_L, e, sF_222]
theorem upS (G : gG) (M : gMem) {v : Int64} : va_up (mkW G M) 148 (.inr (4, (gFs (gb G) M.2.2.1 M.2.2.2.1 148).set 5 (.long v))) = mkW G (sS M v) := by
  funext a
  by_cases c : a = 148
  · subst c
    rw [mk6 G (sS M v) (ci := 4) rfl]
    exact if_pos rfl
  · rw [show va_up (mkW G M) 148 (.inr (4, (gFs (gb G) M.2.2.1 M.2.2.2.1 148).set 5 (.long v))) a = mkW G M a from if_neg c]
    have e : gFs (gb G) M.2.2.1 M.2.2.2.1 a = gFs (gb G) (sS M v).2.2.1 (sS M v).2.2.2.1 a := gFs_loc (fun i => rfl) (fun q => absurd q c)
    unfold mkW
    rw [sS_1, sS_L, e, sS_D]
theorem gKl_mem : ∀ (l : List (Nat × Nat × Nat)) (o : Nat) (k : Nat × Nat), gKl l o = k → k ≠ (9, 0) → (o, k) ∈ l
  | [], o, k, h, hn => absurd h.symm hn
  | (a, x) :: t, o, k, h, hn => by
    unfold gKl at h
    by_cases c : a = o
    · rw [if_pos c] at h
      subst c; subst h
      exact List.mem_cons_self
    · rw [if_neg c] at h
      exact List.mem_cons_of_mem _ (gKl_mem t o k h hn)
theorem gKd_3 {a m : Nat} (h : gKd a = (3, m)) : a = 238 := by
  unfold gKd at h
  by_cases c1 : 10 ≤ a ∧ a < 130
  · rw [if_pos c1] at h
    by_cases c2 : a % 2 = 0
    · rw [if_pos c2] at h
      cases h
    · rw [if_neg c2] at h
      cases h
  · rw [if_neg c1] at h
    by_cases c2 : 158 ≤ a ∧ a < 218
    · rw [if_pos c2] at h
      cases h
    · rw [if_neg c2] at h
      have hm := gKl_mem _ _ _ h (by intro q; cases q)
      have : ∀ q ∈ gKt, q.2.1 = 3 → q.1 = 238 := by decide
      exact this _ hm rfl
theorem up3 (G : gG) (M : gMem) (f : Nat → UInt64) : va_up (mkW G M) 238 (.inl (G.2.2.1 3, 1, .inr (.inr (.inr (.inl f))))) = mkW G (sD M f) := by
  funext a
  by_cases c : a = 238
  · subst c
    rw [mk3 G (sD M f) (m := 1) rfl]
    exact if_pos rfl
  · rw [show va_up (mkW G M) 238 (.inl (G.2.2.1 3, 1, .inr (.inr (.inr (.inl f))))) a = mkW G M a from if_neg c]
    unfold mkW
    rw [sD_1, sD_L, sD_F, sD_S]
    generalize hk : gKd a = z
    obtain ⟨z1, z2⟩ := z
    match z1, hk with
    | 0, _ => rfl
    | 1, _ => rfl
    | 2, _ => rfl
    | 3, hk => exact absurd (gKd_3 hk) c
    | 4, _ => rfl
    | 5, _ => rfl
    | (_ + 6), _ => rfl
/-! trees -/
def gTr (t : Nat) : Prop := gKd t = (6, 5) ∧ gKd (t + 1) = (0, 8) ∧ t + 1 < 239 ∧ t ≠ 0 ∧ t ≠ 1 ∧ t ≠ 130 ∧ t ≠ 131 ∧ t ≠ 138 ∧ t ≠ 148 ∧ t ≠ 156
theorem gTr_c {c : Nat} (h : c < 60) : gTr (10 + 2 * c) := by
  refine ⟨?_, ?_, by omega, by omega, by omega, by omega, by omega, by omega, by omega, by omega⟩
  · unfold gKd
    rw [if_pos ⟨by omega, by omega⟩, if_pos (by omega)]
  · unfold gKd
    rw [if_pos ⟨by omega, by omega⟩, if_neg (by omega)]
theorem gFs_tr {b : Nat} {F : Nat → Nat → Int32} {S : Int64} {t : Nat} (h : gTr t) : gFs b F S t = [.ref (b + (t + 1))] := by
  obtain ⟨-, -, -, h1, h2, h3, h4, h5, h6, h7⟩ := h
  unfold gFs
  rw [if_neg h1, if_neg h2, if_neg h3, if_neg h4, if_neg h5, if_neg h6, if_neg h7]
theorem gKd_row {c : Nat} (h : c < 60) : gKd (158 + c) = (0, 8) := by
  unfold gKd
  rw [if_neg (by omega), if_pos ⟨by omega, by omega⟩]
def oI : Option Nat → Int32
  | none => -1
  | some v => nI v
def gRm (d c : Nat) : Room := { frames := d + 7, cells := c, slots := 8 * c, locals := 100 + 40 * d }
/-- returns v, the memory then M -/
def Rt (G : gG) (v : Option Value) (M : gMem) : gF := fun r N σ => r = .inl v ∧ N = 239 ∧ σ = mkW G M
/-- throws E, the memory then M -/
def Th (G : gG) (E : String) (M : gMem) : gF := fun r N σ => r = .inr E ∧ N = 239 ∧ σ = mkW G M
abbrev SpR (G : gG) (μ : gM) (rm : Room) (av : List Value) (M : gMem) (v : Option Value) (M' : gMem) : Prop := Sp G μ rm false 239 av (mkW G M) (Rt G v M')
abbrev SpT (G : gG) (μ : gM) (rm : Room) (av : List Value) (M : gMem) (E : String) (M' : gMem) : Prop := Sp G μ rm false 239 av (mkW G M) (Th G E M')
/-- what is known of a method that is called on an object of kind ci -/
def gV (μ : gM) (na ci : Nat) (T : u_T) (F : Nat) : Prop := gCd μ = .code μ.1 μ.2.1 μ.2.2.1 μ.2.2.2.1 ∧ gKn μ na ∧ Cond.instanceMethod μ.1 ∈ gw ∧ Cond.selects μ.1.cls μ.1 μ.1 ∈ gw ∧ vwCl[ci]? = some (μ.1.cls, T, F)
def gSt (μ : gM) (na : Nat) : Prop := gCd μ = .code μ.1 μ.2.1 μ.2.2.1 μ.2.2.2.1 ∧ gKn μ na ∧ Cond.static μ.1 ∈ gw
section QROWS
variable {G : gG} {X : gX} {own : String} {cc : ByteArray} {nL : Nat} {R : Room} {k n pc : Nat} {lv : List (Option Value)} {st : List Value} {M : gMem}
abbrev Q (G : gG) (X : gX) (k n pc : Nat) (lv : List (Option Value)) (st : List Value) (M : gMem) : Prop := J G X false 239 k n pc lv st (mkW G M)
theorem q_get (C : gC G X own cc nL R) {ci F o idx : Nat} {Cn ref : String} {T : u_T} {ty : Nat → FieldType} {v : Value} (hF : gFd ci Cn T F ty) (kf : Nat) (hk : gKd o = (6, ci)) (ho : o < 239) (hkf : kf < F) (hl : Cond.fieldLink own idx ref (T kf).2.1 (T kf).2.2.1 ∈ gw) (hr : (T kf).1 = ref) (hv : (gFs (gb G) M.2.2.1 M.2.2.2.1 o)[kf]? = some v) (d : decode cc pc = .ok (.getfield idx, 3))
    (kk : Q G X k n (pc + 3) lv (v :: st) M) : Q G X k n pc lv (.ref (gb G + o) :: st) M := j_get C hF kf (mk6 G M hk) ho hkf hl hr hv d kk
theorem q_putI (C : gC G X own cc nL R) {ci F o idx : Nat} {Cn ref : String} {T : u_T} {ty : Nat → FieldType} {v : Int32} (hF : gFd ci Cn T F ty) (kf : Nat) (hk : gKd o = (6, ci)) (ho : o < 239) (hkf : kf < F) (hl : Cond.fieldLink own idx ref (T kf).2.1 (T kf).2.2.1 ∈ gw) (hr : (T kf).1 = ref) (hfin : (T kf).2.2.2 = false) (hty : ty kf = .int) (hlen : kf < (gFs (gb G) M.2.2.1 M.2.2.2.1 o).length) (hs : (gFs (gb G) M.2.2.1 M.2.2.2.1 o).set kf (.int v) = gFs (gb G) (sF M o kf v).2.2.1 M.2.2.2.1 o) (d : decode cc pc = .ok (.putfield idx, 3))
    (kk : Q G X k n (pc + 3) lv st (sF M o kf v)) : Q G X k n pc lv (.int v :: .ref (gb G + o) :: st) M :=
  j_put C hF kf (mk6 G M hk) ho hkf hl hr (Or.inl hfin) (by rw [hty]; rfl) (by rw [hty]; rfl) hlen d (by rw [up6 G M hk hs]; exact kk)
theorem q_putS (C : gC G X own cc nL R) {F idx : Nat} {Cn ref : String} {T : u_T} {ty : Nat → FieldType} {v : Int64} (hF : gFd 4 Cn T F ty) (hkf : 5 < F) (hl : Cond.fieldLink own idx ref (T 5).2.1 (T 5).2.2.1 ∈ gw) (hr : (T 5).1 = ref) (hfin : (T 5).2.2.2 = false) (hty : ty 5 = .long) (d : decode cc pc = .ok (.putfield idx, 3))
    (kk : Q G X k n (pc + 3) lv st (sS M v)) : Q G X k n pc lv (.long v :: .ref (gb G + 148) :: st) M :=
  j_put C hF 5 (mk6 G M (ci := 4) rfl) (by decide) hkf hl hr (Or.inl hfin) (by rw [hty]; rfl) (by rw [hty]; rfl) (Nat.le_of_ble_eq_true rfl) d (by rw [upS G M]; exact kk)
theorem q_alen (C : gC G X own cc nL R) {o m : Nat} (hk : gKd o = (0, m)) (ho : o < 239) (d : decode cc pc = .ok (.arraylength, 1)) (kk : Q G X k n (pc + 1) lv (.int (nI m) :: st) M) : Q G X k n pc lv (.ref (gb G + o) :: st) M :=
  j_alen C 0 rfl (mk0 G M hk) ho rfl d kk
theorem q_iald (C : gC G X own cc nL R) {o m a : Nat} (hk : gKd o = (0, m)) (ho : o < 239) (hm : m < 1000) (ha : a < m) (d : decode cc pc = .ok (.iaload, 1)) (kk : Q G X k n (pc + 1) lv (.int (M.1 o a) :: st) M) : Q G X k n pc lv (.int (nI a) :: .ref (gb G + o) :: st) M :=
  j_iald C (mk0 G M hk) ho (vp_in_nI ha (by omega)) d (by rw [nI_clamp (by omega)]; exact kk)
theorem q_zald (C : gC G X own cc nL R) {o m a : Nat} (hk : gKd o = (2, m)) (ho : o < 239) (hm : m < 1000) (ha : a < m) (d : decode cc pc = .ok (.baload, 1)) (kk : Q G X k n (pc + 1) lv (.int (M.1 o a) :: st) M) : Q G X k n pc lv (.int (nI a) :: .ref (gb G + o) :: st) M :=
  j_zald C (mk2 G M hk) ho (vp_in_nI ha (by omega)) d (by rw [nI_clamp (by omega)]; exact kk)
theorem q_lald (C : gC G X own cc nL R) {o m a : Nat} (hk : gKd o = (1, m)) (ho : o < 239) (hm : m < 1000) (ha : a < m) (d : decode cc pc = .ok (.laload, 1)) (kk : Q G X k n (pc + 1) lv (.long (M.2.1 o a) :: st) M) : Q G X k n pc lv (.int (nI a) :: .ref (gb G + o) :: st) M :=
  j_lald C (mk1 G M hk) ho (vp_in_nI ha (by omega)) d (by rw [nI_clamp (by omega)]; exact kk)
theorem q_iast (C : gC G X own cc nL R) {o m a : Nat} {x : Int32} (hk : gKd o = (0, m)) (ho : o < 239) (hm : m < 1000) (ha : a < m) (d : decode cc pc = .ok (.iastore, 1)) (kk : Q G X k n (pc + 1) lv st (sI M o (upd (M.1 o) a x))) : Q G X k n pc lv (.int x :: .int (nI a) :: .ref (gb G + o) :: st) M :=
  j_iast C (mk0 G M hk) ho (vp_in_nI ha (by omega)) d (by rw [nI_clamp (by omega), up0 G M hk]; exact kk)
theorem q_zast (C : gC G X own cc nL R) {o m a : Nat} {x : Int32} (hk : gKd o = (2, m)) (ho : o < 239) (hm : m < 1000) (ha : a < m) (hx : vp_nar .boolean x = x) (d : decode cc pc = .ok (.bastore, 1)) (kk : Q G X k n (pc + 1) lv st (sI M o (upd (M.1 o) a x))) : Q G X k n pc lv (.int x :: .int (nI a) :: .ref (gb G + o) :: st) M :=
  j_zast C (mk2 G M hk) ho (vp_in_nI ha (by omega)) d (by rw [nI_clamp (by omega), hx, up2 G M hk]; exact kk)
theorem q_last (C : gC G X own cc nL R) {o m a : Nat} {x : Int64} (hk : gKd o = (1, m)) (ho : o < 239) (hm : m < 1000) (ha : a < m) (d : decode cc pc = .ok (.lastore, 1)) (kk : Q G X k n (pc + 1) lv st (sL M o (vp_updL (M.2.1 o) a x))) : Q G X k n pc lv (.long x :: .int (nI a) :: .ref (gb G + o) :: st) M :=
  j_last C (mk1 G M hk) ho (vp_in_nI ha (by omega)) d (by rw [nI_clamp (by omega), up1 G M hk]; exact kk)
/-- trees[c] -/
theorem q_aald2 (C : gC G X own cc nL R) {a : Nat} (ha : a < 60) (d : decode cc pc = .ok (.aaload, 1)) (kk : Q G X k n (pc + 1) lv (.ref (gb G + (10 + 2 * a)) :: st) M) : Q G X k n pc lv (.int (nI a) :: .ref (gb G + 2) :: st) M :=
  j_aald C 4 (Or.inl rfl) (show mkW G M 2 = _ from rfl) (by decide) (vp_in_nI ha (by decide)) (by rw [nI_clamp (by omega)]; exact if_pos ha) d kk
theorem q_aald157 (C : gC G X own cc nL R) {a : Nat} (ha : a < 60) (d : decode cc pc = .ok (.aaload, 1)) (kk : Q G X k n (pc + 1) lv (.ref (gb G + (158 + a)) :: st) M) : Q G X k n pc lv (.int (nI a) :: .ref (gb G + 157) :: st) M :=
  j_aald C 5 (Or.inr rfl) (show mkW G M 157 = _ from rfl) (by decide) (vp_in_nI ha (by decide)) (by rw [nI_clamp (by omega)]; exact if_pos ha) d kk
theorem q_iinc (C : gC G X own cc nL R) {i a : Nat} (d : decode cc pc = .ok (.iinc i 1, 3)) (h : gL lv i = some (.int (nI a))) (hi : i < nL) (hn : gN lv i = true) (kk : Q G X k n (pc + 3) (gS lv i (some (.int (nI (a + 1))))) st M) : Q G X k n pc lv st M :=
  j_iinc C d h hi hn (by rw [show nI a + Int32.ofInt 1 = nI (a + 1) from nI_1 a]; exact kk)
theorem q_idec (C : gC G X own cc nL R) {i a : Nat} (d : decode cc pc = .ok (.iinc i (-1), 3)) (h : gL lv i = some (.int (nI (a + 1)))) (hi : i < nL) (hn : gN lv i = true) (kk : Q G X k n (pc + 3) (gS lv i (some (.int (nI a)))) st M) : Q G X k n pc lv st M :=
  j_iinc C d h hi hn (by rw [show nI (a + 1) + Int32.ofInt (-1) = nI a from pk_m1 a]; exact kk)
theorem q_callV (C : gC G X own cc nL R) {μ : gM} {rm : Room} {As : List Value} {i ci F na idx : Nat} {T : u_T} {v : Option Value} {M' : gMem} {stk : List Value} (hM : SpR G μ rm (.ref (gb G + i) :: As) M v M') (hV : gV μ na ci T F) (hlk : Cond.methodLink own idx μ.1 ∈ gw)
    (hk : gKd i = (6, ci)) (hi : i < 239) (hn : As.length = na) (hstk : stk = As.reverse ++ .ref (gb G + i) :: st) (hcat : (st.map fun v => v.category).sum ≤ 8) (hR : (rm.frames + 1 ≤ R.frames ∧ 8 + (μ.2.2.1 + 11) + rm.locals ≤ R.locals) ∧ k + rm.cells ≤ R.cells ∧ n + rm.slots ≤ R.slots) (d : decode cc pc = .ok (.invokevirtual idx, 3))
    (kk : Q G X (k + rm.cells) (n + rm.slots) (pc + 3) lv (v.toList ++ st) M') : Q G X k n pc lv stk M := by
  refine j_callV C hM hV.1 hV.2.1 hV.2.2.1 hV.2.2.2.1 hlk (mk6 G M hk) hi hV.2.2.2.2 hn hstk hcat hR d (fun v' N' σ' h => ?_) (fun E N' σ' h => ?_)
  · obtain ⟨h1, rfl, rfl⟩ := h
    cases h1
    exact kk
  · obtain ⟨h1, -, -⟩ := h
    cases h1
theorem q_callS (C : gC G X own cc nL R) {μ : gM} {rm : Room} {As : List Value} {na idx : Nat} {v : Option Value} {M' : gMem} {stk : List Value} (hM : SpR G μ rm As M v M') (hV : gSt μ na) (hlk : Cond.methodLink own idx μ.1 ∈ gw)
    (hn : As.length = na) (hstk : stk = As.reverse ++ st) (hcat : (st.map fun v => v.category).sum ≤ 8) (hR : (rm.frames + 1 ≤ R.frames ∧ 8 + (μ.2.2.1 + 11) + rm.locals ≤ R.locals) ∧ k + rm.cells ≤ R.cells ∧ n + rm.slots ≤ R.slots) (d : decode cc pc = .ok (.invokestatic idx, 3))
    (kk : Q G X (k + rm.cells) (n + rm.slots) (pc + 3) lv (v.toList ++ st) M') : Q G X k n pc lv stk M := by
  refine j_callS C hM hV.1 hV.2.1 hV.2.2 hlk hn hstk hcat hR d (fun v' N' σ' h => ?_) (fun E N' σ' h => ?_)
  · obtain ⟨h1, rfl, rfl⟩ := h
    cases h1
    exact kk
  · obtain ⟨h1, -, -⟩ := h
    cases h1
/-- the call throws, and what it throws leaves this method -/
theorem q_callVT (C : gC G X own cc nL R) {μ0 : gM} {rm0 : Room} {Φ : gF} (CM : gCM G X μ0 rm0 false Φ) (hh : μ0.2.2.2.2 = []) {μ : gM} {rm : Room} {As : List Value} {i ci F na idx : Nat} {T : u_T} {E : String} {M' : gMem} {stk : List Value} (hM : SpT G μ rm (.ref (gb G + i) :: As) M E M') (hV : gV μ na ci T F) (hlk : Cond.methodLink own idx μ.1 ∈ gw)
    (hk : gKd i = (6, ci)) (hi : i < 239) (hn : As.length = na) (hstk : stk = As.reverse ++ .ref (gb G + i) :: st) (hcat : (st.map fun v => v.category).sum ≤ 8) (hR : (rm.frames + 1 ≤ R.frames ∧ 8 + (μ.2.2.1 + 11) + rm.locals ≤ R.locals) ∧ k + rm.cells ≤ R.cells ∧ n + rm.slots ≤ R.slots) (hk2 : k + rm.cells ≤ rm0.cells) (hn2 : n + rm.slots ≤ rm0.slots) (d : decode cc pc = .ok (.invokevirtual idx, 3))
    (hΦ : Φ (.inr E) 239 (mkW G M')) : Q G X k n pc lv stk M := by
  refine j_callV C hM hV.1 hV.2.1 hV.2.2.1 hV.2.2.2.1 hlk (mk6 G M hk) hi hV.2.2.2.2 hn hstk hcat hR d (fun v' N' σ' h => ?_) (fun E' N' σ' h => ?_)
  · obtain ⟨h1, -, -⟩ := h
    cases h1
  · obtain ⟨h1, rfl, rfl⟩ := h
    cases h1
    exact j_out C CM hh hk2 hn2 hΦ
theorem q_callST (C : gC G X own cc nL R) {μ0 : gM} {rm0 : Room} {Φ : gF} (CM : gCM G X μ0 rm0 false Φ) (hh : μ0.2.2.2.2 = []) {μ : gM} {rm : Room} {As : List Value} {na idx : Nat} {E : String} {M' : gMem} {stk : List Value} (hM : SpT G μ rm As M E M') (hV : gSt μ na) (hlk : Cond.methodLink own idx μ.1 ∈ gw)
    (hn : As.length = na) (hstk : stk = As.reverse ++ st) (hcat : (st.map fun v => v.category).sum ≤ 8) (hR : (rm.frames + 1 ≤ R.frames ∧ 8 + (μ.2.2.1 + 11) + rm.locals ≤ R.locals) ∧ k + rm.cells ≤ R.cells ∧ n + rm.slots ≤ R.slots) (hk2 : k + rm.cells ≤ rm0.cells) (hn2 : n + rm.slots ≤ rm0.slots) (d : decode cc pc = .ok (.invokestatic idx, 3))
    (hΦ : Φ (.inr E) 239 (mkW G M')) : Q G X k n pc lv stk M := by
  refine j_callS C hM hV.1 hV.2.1 hV.2.2 hlk hn hstk hcat hR d (fun v' N' σ' h => ?_) (fun E' N' σ' h => ?_)
  · obtain ⟨h1, -, -⟩ := h
    cases h1
  · obtain ⟨h1, rfl, rfl⟩ := h
    cases h1
    exact j_out C CM hh hk2 hn2 hΦ
theorem q_mmax (C : gC G X own cc nL R) {idx : Nat} {x y : Int32} (hlk : Cond.methodLink own idx Lib.Math.max.name ∈ gw) (hstat : Cond.static Lib.Math.max.name ∈ gw) (hini : Cond.initialized "java/lang/Math" ∈ gw) (hc : Cond.code Lib.Math.max.name Lib.Math.max.code 2 (some .int) ∈ gw) (hfr : 1 ≤ R.frames) (hlo : 21 ≤ R.locals) (hcat : (st.map fun v => v.category).sum ≤ 8) (hk : k ≤ R.cells) (hn : n ≤ R.slots) (d : decode cc pc = .ok (.invokestatic idx, 3))
    (kk : Q G X k n (pc + 3) lv (.int (if x < y then y else x) :: st) M) : Q G X k n pc lv (.int y :: .int x :: st) M := fun H locs ls hW hS hl => by
  have hts := C.2.2.2.2.1
  have hXR : xR X = R := C.2.2.2.2.2.2.2.2
  exact va_mmax C.1 C.2.1 hl.1.symm C.2.2.2.1 (hts _ hlk) (hts _ hstat) (hts _ hini) (hts _ hc) (by rw [hXR]; exact hfr) (by rw [hXR]; omega) (by rw [hXR]; exact hk) (by rw [hXR]; exact hn) d (kk H locs ls hW hS hl)
theorem q_mmin (C : gC G X own cc nL R) {idx : Nat} {x y : Int32} (hlk : Cond.methodLink own idx Lib.Math.min.name ∈ gw) (hstat : Cond.static Lib.Math.min.name ∈ gw) (hini : Cond.initialized "java/lang/Math" ∈ gw) (hc : Cond.code Lib.Math.min.name Lib.Math.min.code 2 (some .int) ∈ gw) (hfr : 1 ≤ R.frames) (hlo : 21 ≤ R.locals) (hcat : (st.map fun v => v.category).sum ≤ 8) (hk : k ≤ R.cells) (hn : n ≤ R.slots) (d : decode cc pc = .ok (.invokestatic idx, 3))
    (kk : Q G X k n (pc + 3) lv (.int (if y < x then y else x) :: st) M) : Q G X k n pc lv (.int y :: .int x :: st) M := fun H locs ls hW hS hl => by
  have hts := C.2.2.2.2.1
  have hXR : xR X = R := C.2.2.2.2.2.2.2.2
  exact va_mmin C.1 C.2.1 hl.1.symm C.2.2.2.1 (hts _ hlk) (hts _ hstat) (hts _ hini) (hts _ hc) (by rw [hXR]; exact hfr) (by rw [hXR]; omega) (by rw [hXR]; exact hk) (by rw [hXR]; exact hn) d (kk H locs ls hW hS hl)
theorem q_if_lt (C : gC G X own cc nL R) {a : Nat} {off : Int} (ha : a < 2 ^ 31) (d : decode cc pc = .ok (.ifCond .lt off, 3)) (tgt : Nat) (ht : (pc : Int) + off = (tgt : Int)) (kf : Q G X k n (pc + 3) lv st M) : Q G X k n pc lv (.int (nI a) :: st) M :=
  j_if_lt C tgt d (fun h => absurd h (nI_pos ha)) (fun _ => kf) ht
theorem q_icmp_eq (C : gC G X own cc nL R) {a b : Nat} {off : Int} (tgt : Nat) (d : decode cc pc = .ok (.if_icmp .eq off, 3)) (ht : (pc : Int) + off = (tgt : Int)) (ha : a < 2 ^ 31) (hb : b < 2 ^ 31) (kt : a = b → Q G X k n tgt lv st M) (kf : ¬ a = b → Q G X k n (pc + 3) lv st M) : Q G X k n pc lv (.int (nI b) :: .int (nI a) :: st) M := j_icmp_eq C tgt d (fun h => kt ((nI_eq ha hb).mp h)) (fun h => kf (fun q => h ((nI_eq ha hb).mpr q))) ht
theorem q_icmp_ne (C : gC G X own cc nL R) {a b : Nat} {off : Int} (tgt : Nat) (d : decode cc pc = .ok (.if_icmp .ne off, 3)) (ht : (pc : Int) + off = (tgt : Int)) (ha : a < 2 ^ 31) (hb : b < 2 ^ 31) (kt : ¬ a = b → Q G X k n tgt lv st M) (kf : a = b → Q G X k n (pc + 3) lv st M) : Q G X k n pc lv (.int (nI b) :: .int (nI a) :: st) M := j_icmp_ne C tgt d (fun h => kt (fun q => h ((nI_eq ha hb).mpr q))) (fun h => kf ((nI_eq ha hb).mp h)) ht
theorem q_icmp_lt (C : gC G X own cc nL R) {a b : Nat} {off : Int} (tgt : Nat) (d : decode cc pc = .ok (.if_icmp .lt off, 3)) (ht : (pc : Int) + off = (tgt : Int)) (ha : a < 2 ^ 31) (hb : b < 2 ^ 31) (kt : a < b → Q G X k n tgt lv st M) (kf : b ≤ a → Q G X k n (pc + 3) lv st M) : Q G X k n pc lv (.int (nI b) :: .int (nI a) :: st) M := j_icmp_lt C tgt d (fun h => kt ((nI_ltI ha hb).mp h)) (fun h => kf (Nat.not_lt.mp (fun q => h ((nI_ltI ha hb).mpr q)))) ht
theorem q_icmp_ge (C : gC G X own cc nL R) {a b : Nat} {off : Int} (tgt : Nat) (d : decode cc pc = .ok (.if_icmp .ge off, 3)) (ht : (pc : Int) + off = (tgt : Int)) (ha : a < 2 ^ 31) (hb : b < 2 ^ 31) (kt : b ≤ a → Q G X k n tgt lv st M) (kf : a < b → Q G X k n (pc + 3) lv st M) : Q G X k n pc lv (.int (nI b) :: .int (nI a) :: st) M := j_icmp_ge C tgt d (fun h => kt ((nI_leI hb ha).mp h)) (fun h => kf (Nat.not_le.mp (fun q => h ((nI_leI hb ha).mpr q)))) ht
theorem q_icmp_gt (C : gC G X own cc nL R) {a b : Nat} {off : Int} (tgt : Nat) (d : decode cc pc = .ok (.if_icmp .gt off, 3)) (ht : (pc : Int) + off = (tgt : Int)) (ha : a < 2 ^ 31) (hb : b < 2 ^ 31) (kt : b < a → Q G X k n tgt lv st M) (kf : a ≤ b → Q G X k n (pc + 3) lv st M) : Q G X k n pc lv (.int (nI b) :: .int (nI a) :: st) M := j_icmp_gt C tgt d (fun h => kt ((nI_ltI hb ha).mp h)) (fun h => kf (Nat.not_lt.mp (fun q => h ((nI_ltI hb ha).mpr q)))) ht
theorem q_icmp_le (C : gC G X own cc nL R) {a b : Nat} {off : Int} (tgt : Nat) (d : decode cc pc = .ok (.if_icmp .le off, 3)) (ht : (pc : Int) + off = (tgt : Int)) (ha : a < 2 ^ 31) (hb : b < 2 ^ 31) (kt : a ≤ b → Q G X k n tgt lv st M) (kf : b < a → Q G X k n (pc + 3) lv st M) : Q G X k n pc lv (.int (nI b) :: .int (nI a) :: st) M := j_icmp_le C tgt d (fun h => kt ((nI_leI ha hb).mp h)) (fun h => kf (Nat.not_le.mp (fun q => h ((nI_leI ha hb).mpr q)))) ht
def bI (b : Bool) : Int32 := if b = true then 1 else 0
theorem q_if_eq0 (C : gC G X own cc nL R) {b : Bool} {off : Int} (tgt : Nat) (d : decode cc pc = .ok (.ifCond .eq off, 3)) (ht : (pc : Int) + off = (tgt : Int)) (kt : b = false → Q G X k n tgt lv st M) (kf : b = true → Q G X k n (pc + 3) lv st M) : Q G X k n pc lv (.int (bI b) :: st) M := j_if_eq C tgt d (fun h => kt (by cases b; rfl; cases h)) (fun h => kf (by cases b; exact absurd rfl h; rfl)) ht
theorem q_if_ne0 (C : gC G X own cc nL R) {b : Bool} {off : Int} (tgt : Nat) (d : decode cc pc = .ok (.ifCond .ne off, 3)) (ht : (pc : Int) + off = (tgt : Int)) (kt : b = true → Q G X k n tgt lv st M) (kf : b = false → Q G X k n (pc + 3) lv st M) : Q G X k n pc lv (.int (bI b) :: st) M := j_if_ne C tgt d (fun h => kt (by cases b; exact absurd rfl h; rfl)) (fun h => kf (by cases b; rfl; cases h)) ht
theorem oI_none {o : Option Nat} (ho : ∀ v, o = some v → v < 2 ^ 31) : oI o = -1 ↔ o = none := by
  constructor
  · intro h
    cases o with
    | none => rfl
    | some v =>
      exfalso
      have := nI_toInt (ho v rfl)
      rw [show nI v = -1 from h] at this
      have h1 : (-1 : Int32).toInt = -1 := by decide
      omega
  · intro h
    rw [h]
    rfl
theorem oI_eq {a b : Option Nat} (ha : ∀ v, a = some v → v < 2 ^ 31) (hb : ∀ v, b = some v → v < 2 ^ 31) : oI a = oI b ↔ a = b := by
  constructor
  · intro h
    cases a with
    | none => exact ((oI_none hb).mp h.symm).symm
    | some v =>
      cases b with
      | none => exact (oI_none ha).mp h
      | some w => exact congrArg some ((nI_eq (ha v rfl) (hb w rfl)).mp h)
  · intro h
    rw [h]
theorem q_icmp_eqN (C : gC G X own cc nL R) {o : Option Nat} {off : Int} (tgt : Nat) (d : decode cc pc = .ok (.if_icmp .eq off, 3)) (ht : (pc : Int) + off = (tgt : Int)) (ho : ∀ v, o = some v → v < 2 ^ 31) (kt : o = none → Q G X k n tgt lv st M) (kf : ∀ v, o = some v → Q G X k n (pc + 3) lv st M) : Q G X k n pc lv (.int (-1) :: .int (oI o) :: st) M := j_icmp_eq C tgt d (fun h => kt ((oI_none ho).mp h)) (fun h => by
  cases o with
  | none => exact absurd rfl h
  | some v => exact kf v rfl) ht
theorem q_icmp_neN (C : gC G X own cc nL R) {o : Option Nat} {off : Int} (tgt : Nat) (d : decode cc pc = .ok (.if_icmp .ne off, 3)) (ht : (pc : Int) + off = (tgt : Int)) (ho : ∀ v, o = some v → v < 2 ^ 31) (kt : ∀ v, o = some v → Q G X k n tgt lv st M) (kf : o = none → Q G X k n (pc + 3) lv st M) : Q G X k n pc lv (.int (-1) :: .int (oI o) :: st) M := j_icmp_ne C tgt d (fun h => by
  cases o with
  | none => exact absurd rfl h
  | some v => exact kt v rfl) (fun h => kf ((oI_none ho).mp h)) ht
theorem q_top {x y : Int32} (e : x = y) (kk : Q G X k n pc lv (.int y :: st) M) : Q G X k n pc lv (.int x :: st) M := by rw [e]; exact kk
theorem q_mem {M' : gMem} (e : M = M') (kk : Q G X k n pc lv st M') : Q G X k n pc lv st M := by rw [e]; exact kk
end QROWS
end
section
set_option maxRecDepth 100000 in
theorem xg_IOOB : ∀ w ∈ (vx_atS RX6 110 "java/lang/IndexOutOfBoundsException" ["java/lang/RuntimeException", "java/lang/Exception"]).filter goodWord, w ∈ gw := by decide +kernel
theorem xn_IOOB : ∀ w ∈ (vx_atS RX6 110 "java/lang/IndexOutOfBoundsException" ["java/lang/RuntimeException", "java/lang/Exception"]).filter (fun w => !goodWord w), w ∈ Cond.castable "java/lang/IndexOutOfBoundsException" "java/lang/IndexOutOfBoundsException" :: gDc.map Cond.declares := by decide +kernel
theorem xo_IOOB (ik : Nat) : ∀ w ∈ Cond.classLink RX6 ik "java/lang/IndexOutOfBoundsException" :: Cond.initialized "java/lang/IndexOutOfBoundsException" :: vx_atS RX6 110 "java/lang/IndexOutOfBoundsException" ["java/lang/RuntimeException", "java/lang/Exception"], vx_ot w = true := List.forall_mem_cons.mpr ⟨rfl, List.forall_mem_cons.mpr ⟨rfl, by decide +kernel⟩⟩
set_option maxRecDepth 100000 in
theorem xg_IAE : ∀ w ∈ (vx_atS RX6 56 "java/lang/IllegalArgumentException" ["java/lang/RuntimeException", "java/lang/Exception"]).filter goodWord, w ∈ gw := by decide +kernel
theorem xn_IAE : ∀ w ∈ (vx_atS RX6 56 "java/lang/IllegalArgumentException" ["java/lang/RuntimeException", "java/lang/Exception"]).filter (fun w => !goodWord w), w ∈ Cond.castable "java/lang/IllegalArgumentException" "java/lang/IllegalArgumentException" :: gDc.map Cond.declares := by decide +kernel
theorem xo_IAE (ik : Nat) : ∀ w ∈ Cond.classLink RX6 ik "java/lang/IllegalArgumentException" :: Cond.initialized "java/lang/IllegalArgumentException" :: vx_atS RX6 56 "java/lang/IllegalArgumentException" ["java/lang/RuntimeException", "java/lang/Exception"], vx_ot w = true := List.forall_mem_cons.mpr ⟨rfl, List.forall_mem_cons.mpr ⟨rfl, by decide +kernel⟩⟩
set_option maxRecDepth 100000 in
theorem xg_NSE : ∀ w ∈ (gx_at RX6 167 "java/util/NoSuchElementException" 13 prog_23_method_4_code ["java/lang/RuntimeException", "java/lang/Exception"]).filter goodWord, w ∈ gw := by decide +kernel
theorem xn_NSE : ∀ w ∈ (gx_at RX6 167 "java/util/NoSuchElementException" 13 prog_23_method_4_code ["java/lang/RuntimeException", "java/lang/Exception"]).filter (fun w => !goodWord w), w ∈ Cond.castable "java/util/NoSuchElementException" "java/util/NoSuchElementException" :: gDc.map Cond.declares := by decide +kernel
theorem xo_NSE (ik : Nat) : ∀ w ∈ Cond.classLink RX6 ik "java/util/NoSuchElementException" :: Cond.initialized "java/util/NoSuchElementException" :: gx_at RX6 167 "java/util/NoSuchElementException" 13 prog_23_method_4_code ["java/lang/RuntimeException", "java/lang/Exception"], vx_ot w = true := List.forall_mem_cons.mpr ⟨rfl, List.forall_mem_cons.mpr ⟨rfl, by decide +kernel⟩⟩
set_option maxRecDepth 100000 in
theorem xg_ISE : ∀ w ∈ (vx_atS RX6 75 "java/lang/IllegalStateException" ["java/lang/RuntimeException", "java/lang/Exception"]).filter goodWord, w ∈ gw := by decide +kernel
theorem xn_ISE : ∀ w ∈ (vx_atS RX6 75 "java/lang/IllegalStateException" ["java/lang/RuntimeException", "java/lang/Exception"]).filter (fun w => !goodWord w), w ∈ Cond.castable "java/lang/IllegalStateException" "java/lang/IllegalStateException" :: gDc.map Cond.declares := by decide +kernel
theorem xo_ISE (ik : Nat) : ∀ w ∈ Cond.classLink RX6 ik "java/lang/IllegalStateException" :: Cond.initialized "java/lang/IllegalStateException" :: vx_atS RX6 75 "java/lang/IllegalStateException" ["java/lang/RuntimeException", "java/lang/Exception"], vx_ot w = true := List.forall_mem_cons.mpr ⟨rfl, List.forall_mem_cons.mpr ⟨rfl, by decide +kernel⟩⟩
set_option maxRecDepth 100000 in
theorem xg_UOE : ∀ w ∈ (vx_atS RX6 140 "java/lang/UnsupportedOperationException" ["java/lang/RuntimeException", "java/lang/Exception"]).filter goodWord, w ∈ gw := by decide +kernel
theorem xn_UOE : ∀ w ∈ (vx_atS RX6 140 "java/lang/UnsupportedOperationException" ["java/lang/RuntimeException", "java/lang/Exception"]).filter (fun w => !goodWord w), w ∈ Cond.castable "java/lang/UnsupportedOperationException" "java/lang/UnsupportedOperationException" :: gDc.map Cond.declares := by decide +kernel
theorem xo_UOE (ik : Nat) : ∀ w ∈ Cond.classLink RX6 ik "java/lang/UnsupportedOperationException" :: Cond.initialized "java/lang/UnsupportedOperationException" :: vx_atS RX6 140 "java/lang/UnsupportedOperationException" ["java/lang/RuntimeException", "java/lang/Exception"], vx_ot w = true := List.forall_mem_cons.mpr ⟨rfl, List.forall_mem_cons.mpr ⟨rfl, by decide +kernel⟩⟩
set_option maxRecDepth 100000 in
theorem xg_AE : ∀ w ∈ (vx_atS RX6 222 "java/lang/ArithmeticException" ["java/lang/RuntimeException", "java/lang/Exception"]).filter goodWord, w ∈ gw := by decide +kernel
theorem xn_AE : ∀ w ∈ (vx_atS RX6 222 "java/lang/ArithmeticException" ["java/lang/RuntimeException", "java/lang/Exception"]).filter (fun w => !goodWord w), w ∈ Cond.castable "java/lang/ArithmeticException" "java/lang/ArithmeticException" :: gDc.map Cond.declares := by decide +kernel
theorem xo_AE (ik : Nat) : ∀ w ∈ Cond.classLink RX6 ik "java/lang/ArithmeticException" :: Cond.initialized "java/lang/ArithmeticException" :: vx_atS RX6 222 "java/lang/ArithmeticException" ["java/lang/RuntimeException", "java/lang/Exception"], vx_ot w = true := List.forall_mem_cons.mpr ⟨rfl, List.forall_mem_cons.mpr ⟨rfl, by decide +kernel⟩⟩
theorem xr_0 : decode prog_23_method_4_code 0 = .ok (.aload_n 0, 1) := by decide +kernel
theorem xr_1 : decode prog_23_method_4_code 1 = .ok (.aload_n 1, 1) := by decide +kernel
theorem xr_2 : decode prog_23_method_4_code 2 = .ok (.invokespecial 13, 3) := by decide +kernel
theorem xr_5 : decode prog_23_method_4_code 5 = .ok (.return_, 1) := by decide +kernel
end
section
theorem gLe_0 {l : List (Option Value)} : gLe [] l := trivial
theorem gLe_c {v : Value} {o : Option Value} {t t' : List (Option Value)} (h : o = some v) (ht : gLe t t') : gLe (some v :: t) (o :: t') := ⟨h, ht⟩
theorem gLe_n {o : Option Value} {t t' : List (Option Value)} (ht : gLe t t') : gLe (none :: t) (o :: t') := ht
theorem g_up (e : Nat) (P : Nat → Prop) (h : ∀ i, i ≤ e → (i < e → P (i + 1)) → P i) : ∀ i, i ≤ e → P i := by
  have key : ∀ d i, i + d = e → P i := by
    intro d
    induction d with
    | zero => intro i hi; exact h i (by omega) (fun q => absurd q (by omega))
    | succ d ih => intro i hi; exact h i (by omega) (fun _ => ih (i + 1) (by omega))
  intro i hi
  exact key (e - i) i (by omega)
theorem g_dn (P : Nat → Prop) (h0 : P 0) (h : ∀ i, P i → P (i + 1)) : ∀ i, P i := fun i => Nat.rec h0 (fun i ih => h i ih) i
theorem gTr_lt {t : Nat} (h : gTr t) : t < 239 := Nat.lt_of_succ_lt h.2.2.1
theorem gFs_tr0 {b : Nat} {F : Nat → Nat → Int32} {S : Int64} {t : Nat} (h : gTr t) : (gFs b F S t)[0]? = some (.ref (b + (t + 1))) := by rw [gFs_tr h]; rfl
def gCm (k : Nat) : Prop := k = 131 ∨ k = 138
theorem gCm_k {k : Nat} (h : gCm k) : gKd k = (6, 2) := by rcases h with rfl | rfl <;> rfl
theorem gCm_lt {k : Nat} (h : gCm k) : k < 239 := by rcases h with rfl | rfl <;> decide
theorem gFs_cm0 {b : Nat} {F : Nat → Nat → Int32} {S : Int64} {k : Nat} (h : gCm k) : (gFs b F S k)[0]? = some (.ref (b + (k + 1))) := by rcases h with rfl | rfl <;> rfl
theorem gFs_cm1 {b : Nat} {F : Nat → Nat → Int32} {S : Int64} {k : Nat} (h : gCm k) : (gFs b F S k)[1]? = some (.ref (b + (k + 3))) := by rcases h with rfl | rfl <;> rfl
theorem gFs_cm2 {b : Nat} {F : Nat → Nat → Int32} {S : Int64} {k : Nat} (h : gCm k) : (gFs b F S k)[2]? = some (.ref (b + (k + 5))) := by rcases h with rfl | rfl <;> rfl
theorem gFs_cm3 {b : Nat} {F : Nat → Nat → Int32} {S : Int64} {k : Nat} (h : gCm k) : (gFs b F S k)[3]? = some (.ref (b + (k + 6))) := by rcases h with rfl | rfl <;> rfl
theorem bI_nar (b : Bool) : narrow .boolean (.int (bI b)) = .int (bI b) := by cases b <;> rfl
section QENDS
variable {G : gG} {X : gX} {own : String} {cc : ByteArray} {nL : Nat} {R : Room} {k n pc : Nat} {lv : List (Option Value)} {M M' : gMem} {μ : gM} {rm : Room}
theorem q_iret (C : gC G X own cc nL R) {v v' : Int32} (CM : gCM G X μ rm false (Rt G (some (.int v')) M')) (hret : μ.2.2.2.1 = some .int) (hk : k ≤ rm.cells) (hn : n ≤ rm.slots) (d : decode cc pc = .ok (.ireturn, 1)) (hv : v = v') (hM : M = M') : Q G X k n pc lv [.int v] M :=
  j_iret C CM hret hk hn d ⟨by rw [hv], rfl, by rw [hM]⟩
theorem q_zret (C : gC G X own cc nL R) {v : Int32} {b : Bool} (CM : gCM G X μ rm false (Rt G (some (.int (bI b))) M')) (hret : μ.2.2.2.1 = some .boolean) (hk : k ≤ rm.cells) (hn : n ≤ rm.slots) (d : decode cc pc = .ok (.ireturn, 1)) (hv : v = bI b) (hM : M = M') : Q G X k n pc lv [.int v] M :=
  j_zret C CM hret (by rw [hv]; exact bI_nar b) hk hn d ⟨by rw [hv], rfl, by rw [hM]⟩
theorem q_lret (C : gC G X own cc nL R) {v v' : Int64} (CM : gCM G X μ rm false (Rt G (some (.long v')) M')) (hret : μ.2.2.2.1 = some .long) (hk : k ≤ rm.cells) (hn : n ≤ rm.slots) (d : decode cc pc = .ok (.lreturn, 1)) (hv : v = v') (hM : M = M') : Q G X k n pc lv [.long v] M :=
  j_lret C CM hret hk hn d ⟨by rw [hv], rfl, by rw [hM]⟩
theorem q_fret (C : gC G X own cc nL R) {v v' : UInt32} (CM : gCM G X μ rm false (Rt G (some (.float v')) M')) (hret : μ.2.2.2.1 = some .float) (hk : k ≤ rm.cells) (hn : n ≤ rm.slots) (d : decode cc pc = .ok (.freturn, 1)) (hv : v = v') (hM : M = M') : Q G X k n pc lv [.float v] M :=
  j_fret C CM hret hk hn d ⟨by rw [hv], rfl, by rw [hM]⟩
theorem q_dret (C : gC G X own cc nL R) {v v' : UInt64} (CM : gCM G X μ rm false (Rt G (some (.double v')) M')) (hret : μ.2.2.2.1 = some .double) (hk : k ≤ rm.cells) (hn : n ≤ rm.slots) (d : decode cc pc = .ok (.dreturn, 1)) (hv : v = v') (hM : M = M') : Q G X k n pc lv [.double v] M :=
  j_dret C CM hret hk hn d ⟨by rw [hv], rfl, by rw [hM]⟩
theorem q_aret (C : gC G X own cc nL R) {v v' : Nat} {nm : String} (CM : gCM G X μ rm false (Rt G (some (.ref v')) M')) (hret : μ.2.2.2.1 = some (.object nm)) (hk : k ≤ rm.cells) (hn : n ≤ rm.slots) (d : decode cc pc = .ok (.areturn, 1)) (hv : v = v') (hM : M = M') : Q G X k n pc lv [.ref v] M :=
  j_aret C CM hret hk hn d ⟨by rw [hv], rfl, by rw [hM]⟩
theorem q_vret (C : gC G X own cc nL R) (CM : gCM G X μ rm false (Rt G none M')) (hret : μ.2.2.2.1 = none) (hk : k ≤ rm.cells) (hn : n ≤ rm.slots) (d : decode cc pc = .ok (.return_, 1)) (hM : M = M') : Q G X k n pc lv [] M :=
  j_vret C CM hret hk hn d ⟨rfl, rfl, by rw [hM]⟩
end QENDS
theorem vX6_changedPaths : gV mX6_changedPaths 0 7 TX6 7 := ⟨rfl, kX6_changedPaths, iX6_changedPaths, sX6_changedPaths, rfl⟩
theorem vX6_headOf : gV mX6_headOf 1 7 TX6 7 := ⟨rfl, kX6_headOf, iX6_headOf, sX6_headOf, rfl⟩
theorem vX6_isBranchNumber : gSt mX6_isBranchNumber 1 := ⟨rfl, kX6_isBranchNumber, tX6_isBranchNumber⟩
theorem vX1_treeOf : gV mX1_treeOf 1 3 TX1 8 := ⟨rfl, kX1_treeOf, iX1_treeOf, sX1_treeOf, rfl⟩
theorem vX1_has : gV mX1_has 1 3 TX1 8 := ⟨rfl, kX1_has, iX1_has, sX1_has, rfl⟩
theorem vX4_differences : gV mX4_differences 1 5 TX4 1 := ⟨rfl, kX4_differences, iX4_differences, sX4_differences, rfl⟩
theorem vX4_at : gV mX4_at 1 5 TX4 1 := ⟨rfl, kX4_at, iX4_at, sX4_at, rfl⟩
theorem vX6_currentBranch : gV mX6_currentBranch 0 7 TX6 7 := ⟨rfl, kX6_currentBranch, iX6_currentBranch, sX6_currentBranch, rfl⟩
theorem vX6_commits : gV mX6_commits 0 7 TX6 7 := ⟨rfl, kX6_commits, iX6_commits, sX6_commits, rfl⟩
theorem vX1_size : gV mX1_size 0 3 TX1 8 := ⟨rfl, kX1_size, iX1_size, sX1_size, rfl⟩
theorem vX6_packed : gV mX6_packed 0 7 TX6 7 := ⟨rfl, kX6_packed, iX6_packed, sX6_packed, rfl⟩
theorem vX3_size : gV mX3_size 0 4 TX3 6 := ⟨rfl, kX3_size, iX3_size, sX3_size, rfl⟩
theorem vX6_packSize : gV mX6_packSize 0 7 TX6 7 := ⟨rfl, kX6_packSize, iX6_packSize, sX6_packSize, rfl⟩
theorem vX3_sumOfSizes : gV mX3_sumOfSizes 0 4 TX3 6 := ⟨rfl, kX3_sumOfSizes, iX3_sumOfSizes, sX3_sumOfSizes, rfl⟩
theorem vX6_meanFiles : gV mX6_meanFiles 0 7 TX6 7 := ⟨rfl, kX6_meanFiles, iX6_meanFiles, sX6_meanFiles, rfl⟩
theorem vX1_sumOfFiles : gV mX1_sumOfFiles 0 3 TX1 8 := ⟨rfl, kX1_sumOfFiles, iX1_sumOfFiles, sX1_sumOfFiles, rfl⟩
theorem vX4_countFiles : gV mX4_countFiles 0 5 TX4 1 := ⟨rfl, kX4_countFiles, iX4_countFiles, sX4_countFiles, rfl⟩
theorem vX6_write : gV mX6_write 2 7 TX6 7 := ⟨rfl, kX6_write, iX6_write, sX6_write, rfl⟩
theorem vX6_requirePath : gSt mX6_requirePath 1 := ⟨rfl, kX6_requirePath, tX6_requirePath⟩
theorem vX4_put : gV mX4_put 2 5 TX4 1 := ⟨rfl, kX4_put, iX4_put, sX4_put, rfl⟩
theorem vX6_erase : gV mX6_erase 1 7 TX6 7 := ⟨rfl, kX6_erase, iX6_erase, sX6_erase, rfl⟩
theorem vX6_requireFile : gSt mX6_requireFile 2 := ⟨rfl, kX6_requireFile, tX6_requireFile⟩
theorem vX6_move : gV mX6_move 2 7 TX6 7 := ⟨rfl, kX6_move, iX6_move, sX6_move, rfl⟩
theorem vX6_content : gV mX6_content 1 7 TX6 7 := ⟨rfl, kX6_content, iX6_content, sX6_content, rfl⟩
theorem vX6_commit : gV mX6_commit 0 7 TX6 7 := ⟨rfl, kX6_commit, iX6_commit, sX6_commit, rfl⟩
theorem vX1_record : gV mX1_record 3 3 TX1 8 := ⟨rfl, kX1_record, iX1_record, sX1_record, rfl⟩
theorem vX1_findSame : gV mX1_findSame 3 3 TX1 8 := ⟨rfl, kX1_findSame, iX1_findSame, sX1_findSame, rfl⟩
theorem vX1_firstParent : gV mX1_firstParent 1 3 TX1 8 := ⟨rfl, kX1_firstParent, iX1_firstParent, sX1_firstParent, rfl⟩
theorem vX1_secondParent : gV mX1_secondParent 1 3 TX1 8 := ⟨rfl, kX1_secondParent, iX1_secondParent, sX1_secondParent, rfl⟩
theorem vX4_copy : gV mX4_copy 1 5 TX4 1 := ⟨rfl, kX4_copy, iX4_copy, sX4_copy, rfl⟩
theorem vX1_generationAt : gV mX1_generationAt 1 3 TX1 8 := ⟨rfl, kX1_generationAt, iX1_generationAt, sX1_generationAt, rfl⟩
theorem vJ9_max_7cf53 : gSt mJ9_max_7cf53 2 := ⟨rfl, kJ9_max_7cf53, tJ9_max_7cf53⟩
theorem vX1_ancestorsAt : gV mX1_ancestorsAt 1 3 TX1 8 := ⟨rfl, kX1_ancestorsAt, iX1_ancestorsAt, sX1_ancestorsAt, rfl⟩
theorem vX6_takeAsHead : gV mX6_takeAsHead 1 7 TX6 7 := ⟨rfl, kX6_takeAsHead, iX6_takeAsHead, sX6_takeAsHead, rfl⟩
theorem vX3_catchUpWith : gV mX3_catchUpWith 1 4 TX3 6 := ⟨rfl, kX3_catchUpWith, iX3_catchUpWith, sX3_catchUpWith, rfl⟩
theorem vX3_add : gV mX3_add 1 4 TX3 6 := ⟨rfl, kX3_add, iX3_add, sX3_add, rfl⟩
theorem vX3_find : gV mX3_find 1 4 TX3 6 := ⟨rfl, kX3_find, iX3_find, sX3_find, rfl⟩
theorem vX2_likeness : gSt mX2_likeness 2 := ⟨rfl, kX2_likeness, tX2_likeness⟩
theorem vX6_branch : gV mX6_branch 1 7 TX6 7 := ⟨rfl, kX6_branch, iX6_branch, sX6_branch, rfl⟩
theorem vX6_checkOut : gV mX6_checkOut 1 7 TX6 7 := ⟨rfl, kX6_checkOut, iX6_checkOut, sX6_checkOut, rfl⟩
theorem vX6_requireHead : gV mX6_requireHead 1 7 TX6 7 := ⟨rfl, kX6_requireHead, iX6_requireHead, sX6_requireHead, rfl⟩
theorem vX6_requireNoChanges : gV mX6_requireNoChanges 0 7 TX6 7 := ⟨rfl, kX6_requireNoChanges, iX6_requireNoChanges, sX6_requireNoChanges, rfl⟩
theorem vX6_reset : gV mX6_reset 1 7 TX6 7 := ⟨rfl, kX6_reset, iX6_reset, sX6_reset, rfl⟩
theorem vX6_requireCommit : gV mX6_requireCommit 1 7 TX6 7 := ⟨rfl, kX6_requireCommit, iX6_requireCommit, sX6_requireCommit, rfl⟩
theorem vX6_merge : gV mX6_merge 1 7 TX6 7 := ⟨rfl, kX6_merge, iX6_merge, sX6_merge, rfl⟩
theorem vX1_contains : gV mX1_contains 2 3 TX1 8 := ⟨rfl, kX1_contains, iX1_contains, sX1_contains, rfl⟩
theorem vX1_isIn : gV mX1_isIn 2 3 TX1 8 := ⟨rfl, kX1_isIn, iX1_isIn, sX1_isIn, rfl⟩
theorem vX6_recordMerge : gV mX6_recordMerge 2 7 TX6 7 := ⟨rfl, kX6_recordMerge, iX6_recordMerge, sX6_recordMerge, rfl⟩
theorem vX1_bestBase : gV mX1_bestBase 2 3 TX1 8 := ⟨rfl, kX1_bestBase, iX1_bestBase, sX1_bestBase, rfl⟩
theorem vX5_run : gV mX5_run 4 6 TX5 5 := ⟨rfl, kX5_run, iX5_run, sX5_run, rfl⟩
theorem vX0_run : gV mX0_run 2 2 TX0 4 := ⟨rfl, kX0_run, iX0_run, sX0_run, rfl⟩
theorem vX0_takeMoves : gV mX0_takeMoves 1 2 TX0 4 := ⟨rfl, kX0_takeMoves, iX0_takeMoves, sX0_takeMoves, rfl⟩
theorem vX0_isFreeToLeave : gV mX0_isFreeToLeave 1 2 TX0 4 := ⟨rfl, kX0_isFreeToLeave, iX0_isFreeToLeave, sX0_isFreeToLeave, rfl⟩
theorem vX0_target : gV mX0_target 1 2 TX0 4 := ⟨rfl, kX0_target, iX0_target, sX0_target, rfl⟩
theorem vX0_isFreeToCome : gV mX0_isFreeToCome 1 2 TX0 4 := ⟨rfl, kX0_isFreeToCome, iX0_isFreeToCome, sX0_isFreeToCome, rfl⟩
theorem vX0_source : gV mX0_source 1 2 TX0 4 := ⟨rfl, kX0_source, iX0_source, sX0_source, rfl⟩
theorem vX0_contentBefore : gV mX0_contentBefore 1 2 TX0 4 := ⟨rfl, kX0_contentBefore, iX0_contentBefore, sX0_contentBefore, rfl⟩
theorem vX5_follow : gV mX5_follow 1 6 TX5 5 := ⟨rfl, kX5_follow, iX5_follow, sX5_follow, rfl⟩
theorem vX0_placeOf : gV mX0_placeOf 1 2 TX0 4 := ⟨rfl, kX0_placeOf, iX0_placeOf, sX0_placeOf, rfl⟩
theorem vX0_isNowhereOrUnchanged : gV mX0_isNowhereOrUnchanged 1 2 TX0 4 := ⟨rfl, kX0_isNowhereOrUnchanged, iX0_isNowhereOrUnchanged, sX0_isNowhereOrUnchanged, rfl⟩
theorem vX2_changed : gSt mX2_changed 3 := ⟨rfl, kX2_changed, tX2_changed⟩
theorem vX0_contentAfter : gV mX0_contentAfter 1 2 TX0 4 := ⟨rfl, kX0_contentAfter, iX0_contentAfter, sX0_contentAfter, rfl⟩
theorem vX2_mergeContents : gSt mX2_mergeContents 3 := ⟨rfl, kX2_mergeContents, tX2_mergeContents⟩
theorem vX5_arrive : gV mX5_arrive 2 6 TX5 5 := ⟨rfl, kX5_arrive, iX5_arrive, sX5_arrive, rfl⟩
theorem vX5_bringNewFiles : gV mX5_bringNewFiles 1 6 TX5 5 := ⟨rfl, kX5_bringNewFiles, iX5_bringNewFiles, sX5_bringNewFiles, rfl⟩
theorem vX0_newContentAt : gV mX0_newContentAt 1 2 TX0 4 := ⟨rfl, kX0_newContentAt, iX0_newContentAt, sX0_newContentAt, rfl⟩
theorem vX5_countCrowdedPaths : gV mX5_countCrowdedPaths 0 6 TX5 5 := ⟨rfl, kX5_countCrowdedPaths, iX5_countCrowdedPaths, sX5_countCrowdedPaths, rfl⟩
theorem vX5_merged : gV mX5_merged 0 6 TX5 5 := ⟨rfl, kX5_merged, iX5_merged, sX5_merged, rfl⟩
theorem vX6_putOnto : gV mX6_putOnto 1 7 TX6 7 := ⟨rfl, kX6_putOnto, iX6_putOnto, sX6_putOnto, rfl⟩
theorem vX6_listCommitsNotIn : gV mX6_listCommitsNotIn 2 7 TX6 7 := ⟨rfl, kX6_listCommitsNotIn, iX6_listCommitsNotIn, sX6_listCommitsNotIn, rfl⟩
theorem vX6_applyListed : gV mX6_applyListed 2 7 TX6 7 := ⟨rfl, kX6_applyListed, iX6_applyListed, sX6_applyListed, rfl⟩
theorem vJ9_min_7cf53 : gSt mJ9_min_7cf53 2 := ⟨rfl, kJ9_min_7cf53, tJ9_min_7cf53⟩
theorem vX1_dropBackTo : gV mX1_dropBackTo 1 3 TX1 8 := ⟨rfl, kX1_dropBackTo, iX1_dropBackTo, sX1_dropBackTo, rfl⟩
theorem vX6_head : gV mX6_head 1 7 TX6 7 := ⟨rfl, kX6_head, iX6_head, sX6_head, rfl⟩
theorem vX6_contentIn : gV mX6_contentIn 2 7 TX6 7 := ⟨rfl, kX6_contentIn, iX6_contentIn, sX6_contentIn, rfl⟩
theorem vX6_parentOf : gV mX6_parentOf 2 7 TX6 7 := ⟨rfl, kX6_parentOf, iX6_parentOf, sX6_parentOf, rfl⟩
theorem vX6_generation : gV mX6_generation 1 7 TX6 7 := ⟨rfl, kX6_generation, iX6_generation, sX6_generation, rfl⟩
theorem vX6_isAncestor : gV mX6_isAncestor 2 7 TX6 7 := ⟨rfl, kX6_isAncestor, iX6_isAncestor, sX6_isAncestor, rfl⟩
theorem vX6_isAncestorByWalking : gV mX6_isAncestorByWalking 2 7 TX6 7 := ⟨rfl, kX6_isAncestorByWalking, iX6_isAncestorByWalking, sX6_isAncestorByWalking, rfl⟩
theorem vX1_walkMeets : gV mX1_walkMeets 2 3 TX1 8 := ⟨rfl, kX1_walkMeets, iX1_walkMeets, sX1_walkMeets, rfl⟩
theorem vX1_clearMarks : gV mX1_clearMarks 0 3 TX1 8 := ⟨rfl, kX1_clearMarks, iX1_clearMarks, sX1_clearMarks, rfl⟩
theorem vX1_mark : gV mX1_mark 2 3 TX1 8 := ⟨rfl, kX1_mark, iX1_mark, sX1_mark, rfl⟩
theorem vX1_markParents : gV mX1_markParents 1 3 TX1 8 := ⟨rfl, kX1_markParents, iX1_markParents, sX1_markParents, rfl⟩
theorem vX1_marksAt : gV mX1_marksAt 1 3 TX1 8 := ⟨rfl, kX1_marksAt, iX1_marksAt, sX1_marksAt, rfl⟩
theorem vX6_base : gV mX6_base 2 7 TX6 7 := ⟨rfl, kX6_base, iX6_base, sX6_base, rfl⟩
theorem vX6_baseByWalking : gV mX6_baseByWalking 2 7 TX6 7 := ⟨rfl, kX6_baseByWalking, iX6_baseByWalking, sX6_baseByWalking, rfl⟩
theorem vX1_walkToBestBase : gV mX1_walkToBestBase 2 3 TX1 8 := ⟨rfl, kX1_walkToBestBase, iX1_walkToBestBase, sX1_walkToBestBase, rfl⟩
theorem vX6_bases : gV mX6_bases 2 7 TX6 7 := ⟨rfl, kX6_bases, iX6_bases, sX6_bases, rfl⟩
theorem vX1_countBases : gV mX1_countBases 2 3 TX1 8 := ⟨rfl, kX1_countBases, iX1_countBases, sX1_countBases, rfl⟩
theorem vJ13_bitCount_95d88 : gSt mJ13_bitCount_95d88 1 := ⟨rfl, kJ13_bitCount_95d88, tJ13_bitCount_95d88⟩
theorem vX6_movedTo : gV mX6_movedTo 3 7 TX6 7 := ⟨rfl, kX6_movedTo, iX6_movedTo, sX6_movedTo, rfl⟩
theorem vX5_moveBetween : gV mX5_moveBetween 3 6 TX5 5 := ⟨rfl, kX5_moveBetween, iX5_moveBetween, sX5_moveBetween, rfl⟩
theorem vX6_conflicts : gV mX6_conflicts 2 7 TX6 7 := ⟨rfl, kX6_conflicts, iX6_conflicts, sX6_conflicts, rfl⟩
theorem vX6_lastChange : gV mX6_lastChange 1 7 TX6 7 := ⟨rfl, kX6_lastChange, iX6_lastChange, sX6_lastChange, rfl⟩
theorem vX1_lastChangeAt : gV mX1_lastChangeAt 2 3 TX1 8 := ⟨rfl, kX1_lastChangeAt, iX1_lastChangeAt, sX1_lastChangeAt, rfl⟩
theorem vX6_depthOf : gV mX6_depthOf 1 7 TX6 7 := ⟨rfl, kX6_depthOf, iX6_depthOf, sX6_depthOf, rfl⟩
theorem vX3_depthAt : gV mX3_depthAt 1 4 TX3 6 := ⟨rfl, kX3_depthAt, iX3_depthAt, sX3_depthAt, rfl⟩
theorem vX3_hasPlace : gV mX3_hasPlace 1 4 TX3 6 := ⟨rfl, kX3_hasPlace, iX3_hasPlace, sX3_hasPlace, rfl⟩
theorem vX6_packedFrom : gV mX6_packedFrom 1 7 TX6 7 := ⟨rfl, kX6_packedFrom, iX6_packedFrom, sX6_packedFrom, rfl⟩
theorem vX3_sourceAt : gV mX3_sourceAt 1 4 TX3 6 := ⟨rfl, kX3_sourceAt, iX3_sourceAt, sX3_sourceAt, rfl⟩
theorem vX6_packShare : gV mX6_packShare 0 7 TX6 7 := ⟨rfl, kX6_packShare, iX6_packShare, sX6_packShare, rfl⟩
theorem vX7_thrown : gV mX7_thrown 0 8 TX7 25 := ⟨rfl, kX7_thrown, iX7_thrown, sX7_thrown, rfl⟩
theorem vX7_write : gV mX7_write 2 8 TX7 25 := ⟨rfl, kX7_write, iX7_write, sX7_write, rfl⟩
theorem vX7_isPath : gSt mX7_isPath 1 := ⟨rfl, kX7_isPath, tX7_isPath⟩
theorem vX7_in : gSt mX7_in 3 := ⟨rfl, kX7_in, tX7_in⟩
theorem vX7_erase : gV mX7_erase 1 8 TX7 25 := ⟨rfl, kX7_erase, iX7_erase, sX7_erase, rfl⟩
theorem vX7_lacks : gV mX7_lacks 1 8 TX7 25 := ⟨rfl, kX7_lacks, iX7_lacks, sX7_lacks, rfl⟩
theorem vX7_move : gV mX7_move 2 8 TX7 25 := ⟨rfl, kX7_move, iX7_move, sX7_move, rfl⟩
theorem vX7_raises : gV mX7_raises 1 8 TX7 25 := ⟨rfl, kX7_raises, iX7_raises, sX7_raises, rfl⟩
theorem vX7_content : gV mX7_content 1 8 TX7 25 := ⟨rfl, kX7_content, iX7_content, sX7_content, rfl⟩
theorem vX7_changedPaths : gV mX7_changedPaths 0 8 TX7 25 := ⟨rfl, kX7_changedPaths, iX7_changedPaths, sX7_changedPaths, rfl⟩
theorem vX7_changed : gV mX7_changed 0 8 TX7 25 := ⟨rfl, kX7_changed, iX7_changed, sX7_changed, rfl⟩
theorem vX7_commit : gV mX7_commit 0 8 TX7 25 := ⟨rfl, kX7_commit, iX7_commit, sX7_commit, rfl⟩
theorem vX7_made : gV mX7_made 3 8 TX7 25 := ⟨rfl, kX7_made, iX7_made, sX7_made, rfl⟩
theorem vX7_isSame : gSt mX7_isSame 2 := ⟨rfl, kX7_isSame, tX7_isSame⟩
theorem vX7_branch : gV mX7_branch 1 8 TX7 25 := ⟨rfl, kX7_branch, iX7_branch, sX7_branch, rfl⟩
theorem vX7_checkOut : gV mX7_checkOut 1 8 TX7 25 := ⟨rfl, kX7_checkOut, iX7_checkOut, sX7_checkOut, rfl⟩
theorem vX7_isNone : gV mX7_isNone 1 8 TX7 25 := ⟨rfl, kX7_isNone, iX7_isNone, sX7_isNone, rfl⟩
theorem vX7_becomes : gV mX7_becomes 1 8 TX7 25 := ⟨rfl, kX7_becomes, iX7_becomes, sX7_becomes, rfl⟩
theorem vX7_reset : gV mX7_reset 1 8 TX7 25 := ⟨rfl, kX7_reset, iX7_reset, sX7_reset, rfl⟩
theorem vX7_isCommit : gV mX7_isCommit 1 8 TX7 25 := ⟨rfl, kX7_isCommit, iX7_isCommit, sX7_isCommit, rfl⟩
theorem vX7_merge : gV mX7_merge 1 8 TX7 25 := ⟨rfl, kX7_merge, iX7_merge, sX7_merge, rfl⟩
theorem vX7_isAbove : gV mX7_isAbove 2 8 TX7 25 := ⟨rfl, kX7_isAbove, iX7_isAbove, sX7_isAbove, rfl⟩
theorem vX7_findsAbove : gV mX7_findsAbove 2 8 TX7 25 := ⟨rfl, kX7_findsAbove, iX7_findsAbove, sX7_findsAbove, rfl⟩
theorem vX7_bestBase : gV mX7_bestBase 2 8 TX7 25 := ⟨rfl, kX7_bestBase, iX7_bestBase, sX7_bestBase, rfl⟩
theorem vX7_findsBases : gV mX7_findsBases 2 8 TX7 25 := ⟨rfl, kX7_findsBases, iX7_findsBases, sX7_findsBases, rfl⟩
theorem vX7_merges : gV mX7_merges 3 8 TX7 25 := ⟨rfl, kX7_merges, iX7_merges, sX7_merges, rfl⟩
theorem vX7_findsMoves : gV mX7_findsMoves 3 8 TX7 25 := ⟨rfl, kX7_findsMoves, iX7_findsMoves, sX7_findsMoves, rfl⟩
theorem vX7_isTarget : gSt mX7_isTarget 2 := ⟨rfl, kX7_isTarget, tX7_isTarget⟩
theorem vX7_likeness : gSt mX7_likeness 2 := ⟨rfl, kX7_likeness, tX7_likeness⟩
theorem vX7_line : gSt mX7_line 2 := ⟨rfl, kX7_line, tX7_line⟩
theorem vX7_follows : gV mX7_follows 4 8 TX7 25 := ⟨rfl, kX7_follows, iX7_follows, sX7_follows, rfl⟩
theorem vX7_placeOf : gSt mX7_placeOf 3 := ⟨rfl, kX7_placeOf, tX7_placeOf⟩
theorem vX7_joined : gSt mX7_joined 3 := ⟨rfl, kX7_joined, tX7_joined⟩
theorem vX7_comes : gV mX7_comes 2 8 TX7 25 := ⟨rfl, kX7_comes, iX7_comes, sX7_comes, rfl⟩
theorem vX7_isNew : gSt mX7_isNew 4 := ⟨rfl, kX7_isNew, tX7_isNew⟩
theorem vX7_putOnto : gV mX7_putOnto 1 8 TX7 25 := ⟨rfl, kX7_putOnto, iX7_putOnto, sX7_putOnto, rfl⟩
theorem vX7_applied : gV mX7_applied 2 8 TX7 25 := ⟨rfl, kX7_applied, iX7_applied, sX7_applied, rfl⟩
theorem vX7_currentBranch : gV mX7_currentBranch 0 8 TX7 25 := ⟨rfl, kX7_currentBranch, iX7_currentBranch, sX7_currentBranch, rfl⟩
theorem vX7_head : gV mX7_head 1 8 TX7 25 := ⟨rfl, kX7_head, iX7_head, sX7_head, rfl⟩
theorem vX7_commits : gV mX7_commits 0 8 TX7 25 := ⟨rfl, kX7_commits, iX7_commits, sX7_commits, rfl⟩
theorem vX7_contentIn : gV mX7_contentIn 2 8 TX7 25 := ⟨rfl, kX7_contentIn, iX7_contentIn, sX7_contentIn, rfl⟩
theorem vX7_parentOf : gV mX7_parentOf 2 8 TX7 25 := ⟨rfl, kX7_parentOf, iX7_parentOf, sX7_parentOf, rfl⟩
theorem vX7_generation : gV mX7_generation 1 8 TX7 25 := ⟨rfl, kX7_generation, iX7_generation, sX7_generation, rfl⟩
theorem vX7_findsGenerations : gV mX7_findsGenerations 0 8 TX7 25 := ⟨rfl, kX7_findsGenerations, iX7_findsGenerations, sX7_findsGenerations, rfl⟩
theorem vX7_isAncestor : gV mX7_isAncestor 2 8 TX7 25 := ⟨rfl, kX7_isAncestor, iX7_isAncestor, sX7_isAncestor, rfl⟩
theorem vX7_areCommits : gV mX7_areCommits 2 8 TX7 25 := ⟨rfl, kX7_areCommits, iX7_areCommits, sX7_areCommits, rfl⟩
theorem vX7_isAncestorByWalking : gV mX7_isAncestorByWalking 2 8 TX7 25 := ⟨rfl, kX7_isAncestorByWalking, iX7_isAncestorByWalking, sX7_isAncestorByWalking, rfl⟩
theorem vX7_base : gV mX7_base 2 8 TX7 25 := ⟨rfl, kX7_base, iX7_base, sX7_base, rfl⟩
theorem vX7_baseByWalking : gV mX7_baseByWalking 2 8 TX7 25 := ⟨rfl, kX7_baseByWalking, iX7_baseByWalking, sX7_baseByWalking, rfl⟩
theorem vX7_bases : gV mX7_bases 2 8 TX7 25 := ⟨rfl, kX7_bases, iX7_bases, sX7_bases, rfl⟩
theorem vX7_movedTo : gV mX7_movedTo 3 8 TX7 25 := ⟨rfl, kX7_movedTo, iX7_movedTo, sX7_movedTo, rfl⟩
theorem vX7_conflicts : gV mX7_conflicts 2 8 TX7 25 := ⟨rfl, kX7_conflicts, iX7_conflicts, sX7_conflicts, rfl⟩
theorem vX7_lastChange : gV mX7_lastChange 1 8 TX7 25 := ⟨rfl, kX7_lastChange, iX7_lastChange, sX7_lastChange, rfl⟩
theorem vX7_packed : gV mX7_packed 0 8 TX7 25 := ⟨rfl, kX7_packed, iX7_packed, sX7_packed, rfl⟩
theorem vX7_packsAll : gV mX7_packsAll 0 8 TX7 25 := ⟨rfl, kX7_packsAll, iX7_packsAll, sX7_packsAll, rfl⟩
theorem vX7_packedAt : gV mX7_packedAt 1 8 TX7 25 := ⟨rfl, kX7_packedAt, iX7_packedAt, sX7_packedAt, rfl⟩
theorem vX7_packs : gV mX7_packs 1 8 TX7 25 := ⟨rfl, kX7_packs, iX7_packs, sX7_packs, rfl⟩
theorem vX7_depthOf : gV mX7_depthOf 1 8 TX7 25 := ⟨rfl, kX7_depthOf, iX7_depthOf, sX7_depthOf, rfl⟩
theorem vX7_packedFrom : gV mX7_packedFrom 1 8 TX7 25 := ⟨rfl, kX7_packedFrom, iX7_packedFrom, sX7_packedFrom, rfl⟩
theorem vX7_packSize : gV mX7_packSize 0 8 TX7 25 := ⟨rfl, kX7_packSize, iX7_packSize, sX7_packSize, rfl⟩
theorem vX7_sum : gV mX7_sum 0 8 TX7 25 := ⟨rfl, kX7_sum, iX7_sum, sX7_sum, rfl⟩
theorem vX7_packShare : gV mX7_packShare 0 8 TX7 25 := ⟨rfl, kX7_packShare, iX7_packShare, sX7_packShare, rfl⟩
theorem vX7_meanFiles : gV mX7_meanFiles 0 8 TX7 25 := ⟨rfl, kX7_meanFiles, iX7_meanFiles, sX7_meanFiles, rfl⟩
end
section
def cntN (P : Nat → Bool) : Nat → Nat
  | 0 => 0
  | n + 1 => cntN P n + (if P n = true then 1 else 0)
theorem cntN_s (P : Nat → Bool) (n : Nat) : cntN P (n + 1) = cntN P n + (if P n = true then 1 else 0) := rfl
theorem cnt_t {P : Nat → Bool} {n : Nat} (h : P n = true) : cntN P (n + 1) = cntN P n + 1 := by rw [cntN_s, if_pos h]
theorem cnt_f {P : Nat → Bool} {n : Nat} (h : P n = false) : cntN P (n + 1) = cntN P n := by show cntN P n + _ = _; rw [if_neg (by rw [h]; decide)]; rfl
theorem cnt_le (P : Nat → Bool) (n : Nat) : cntN P n ≤ n := by
  induction n with
  | zero => exact Nat.le_refl _
  | succ n ih => rw [cntN_s]; split <;> omega
theorem cnt_congr {P R : Nat → Bool} {n : Nat} (h : ∀ i, i < n → P i = R i) : cntN P n = cntN R n := by
  induction n with
  | zero => rfl
  | succ n ih => rw [cntN_s, cntN_s, ih (fun i hi => h i (by omega)), h n (by omega)]
theorem cnt_zero {P : Nat → Bool} {n : Nat} : cntN P n = 0 ↔ ∀ i, i < n → P i = false := by
  induction n with
  | zero => exact ⟨fun _ i hi => absurd hi (by omega), fun _ => rfl⟩
  | succ n ih =>
    constructor
    · intro h i hi
      rw [cntN_s] at h
      by_cases c : i = n
      · subst c
        cases hp : P i with
        | false => rfl
        | true => rw [if_pos hp] at h; omega
      · exact ih.mp (by omega) i (by omega)
    · intro h
      rw [cntN_s, ih.mpr (fun i hi => h i (by omega)), if_neg (by rw [h n (by omega)]; decide)]
def cpF (s d : Nat → Int32) (i : Nat) : Nat → Int32 := fun j => if j < i then s j else d j
theorem cpF_0 (s d : Nat → Int32) : cpF s d 0 = d := rfl
theorem cpF_s (s d : Nat → Int32) (i : Nat) : upd (cpF s d i) i (s i) = cpF s d (i + 1) := by
  funext j
  unfold upd cpF
  by_cases c : j = i
  · subst c
    simp
  · by_cases c2 : j < i
    · simp [c, c2, Nat.lt_succ_of_lt c2]
    · simp [c, c2, show ¬ j < i + 1 by omega]
theorem cpF_lt {s d : Nat → Int32} {i j : Nat} (h : j < i) : cpF s d i j = s j := if_pos h
theorem upd_s (f : Nat → Int32) (k : Nat) (x : Int32) : upd f k x k = x := if_pos rfl
theorem upd_n (f : Nat → Int32) {k j : Nat} (x : Int32) (h : j ≠ k) : upd f k x j = f j := if_neg h
/-- digits of a content, the last one first -/
def dg (a k : Nat) : Nat := a / 10 ^ k % 10
def like (a b : Nat) : Nat := cntN (fun k => decide (dg a k = dg b k)) 4
/-- what both sides make of a part: of three numbers -/
def chgN (b o t : Nat) : Option Nat := if o = b then some t else if t = b then some o else if t = o then some o else none
def mrgN (a b c : Nat) : Nat → Option Nat
  | 0 => some 0
  | k + 1 => match mrgN a b c k, chgN (dg a k) (dg b k) (dg c k) with
    | some m, some d => some (m + d * 10 ^ k)
    | _, _ => none
theorem dg_lt (a k : Nat) : dg a k < 10 := Nat.mod_lt _ (by decide)
theorem mrg_s {a b c k m d : Nat} (h1 : mrgN a b c k = some m) (h2 : chgN (dg a k) (dg b k) (dg c k) = some d) : mrgN a b c (k + 1) = some (m + d * 10 ^ k) := by
  show (match mrgN a b c k, chgN (dg a k) (dg b k) (dg c k) with
    | some m, some d => some (m + d * 10 ^ k)
    | _, _ => none) = _
  rw [h1, h2]
theorem mrg_n {a b c k : Nat} (h : mrgN a b c k = none ∨ chgN (dg a k) (dg b k) (dg c k) = none) : mrgN a b c (k + 1) = none := by
  show (match mrgN a b c k, chgN (dg a k) (dg b k) (dg c k) with
    | some m, some d => some (m + d * 10 ^ k)
    | _, _ => none) = _
  rcases h with h | h
  · rw [h]
  · rw [h]
    cases mrgN a b c k <;> rfl
theorem mrg_none {a b c k : Nat} (h : mrgN a b c k = none) : ∀ j, mrgN a b c (k + j) = none := by
  intro j
  induction j with
  | zero => exact h
  | succ j ih => exact mrg_n (Or.inl ih)
theorem chg_lt {b o t d B : Nat} (h : chgN b o t = some d) (ho : o < B) (ht : t < B) : d < B := by
  unfold chgN at h
  split at h
  · cases h; exact ht
  · split at h
    · cases h; exact ho
    · split at h
      · cases h; exact ho
      · cases h
theorem pow_s (a i : Nat) : a / 10 ^ i / 10 = a / 10 ^ (i + 1) := by rw [Nat.div_div_eq_div_mul, Nat.pow_succ]
theorem div_lt (a i : Nat) (h : a < 10000) : a / 10 ^ i < 2 ^ 31 := Nat.lt_of_le_of_lt (Nat.div_le_self _ _) (by omega)
section QD
variable {G : gG} {X : gX} {own : String} {cc : ByteArray} {nL : Nat} {R : Room} {k n pc : Nat} {lv lv' : List (Option Value)} {st : List Value} {M M' : gMem}
theorem q_cast (h : Q G X k n pc lv' st M') (h1 : gLe lv' lv) (h2 : M = M') : Q G X k n pc lv st M := by
  rw [h2]
  exact j_sub h1 h
theorem q_irem (C : gC G X own cc nL R) {a d : Nat} (ha : a < 2 ^ 31) (h0 : 0 < d) (hd : d < 2 ^ 31) (dd : decode cc pc = .ok (.irem, 1)) (kk : Q G X k n (pc + 1) lv (.int (nI (a % d)) :: st) M) : Q G X k n pc lv (.int (nI d) :: .int (nI a) :: st) M :=
  j_irem C dd (nI_ne0 h0 hd) (by rw [pk_rem ha h0 hd]; exact kk)
theorem q_idiv (C : gC G X own cc nL R) {a d : Nat} (ha : a < 2 ^ 31) (h0 : 0 < d) (hd : d < 2 ^ 31) (dd : decode cc pc = .ok (.idiv, 1)) (kk : Q G X k n (pc + 1) lv (.int (nI (a / d)) :: st) M) : Q G X k n pc lv (.int (nI d) :: .int (nI a) :: st) M :=
  j_idiv C dd (nI_ne0 h0 hd) (by rw [pk_div ha h0 hd]; exact kk)
theorem q_iadd (C : gC G X own cc nL R) {a b : Nat} (dd : decode cc pc = .ok (.iadd, 1)) (kk : Q G X k n (pc + 1) lv (.int (nI (a + b)) :: st) M) : Q G X k n pc lv (.int (nI b) :: .int (nI a) :: st) M :=
  j_iadd C dd (by rw [nI_add]; exact kk)
theorem q_imul (C : gC G X own cc nL R) {a b : Nat} (dd : decode cc pc = .ok (.imul, 1)) (kk : Q G X k n (pc + 1) lv (.int (nI (a * b)) :: st) M) : Q G X k n pc lv (.int (nI b) :: .int (nI a) :: st) M :=
  j_imul C dd (by rw [pk_mul]; exact kk)
theorem q_isub (C : gC G X own cc nL R) {a b : Nat} (hb : b ≤ a) (dd : decode cc pc = .ok (.isub, 1)) (kk : Q G X k n (pc + 1) lv (.int (nI (a - b)) :: st) M) : Q G X k n pc lv (.int (nI b) :: .int (nI a) :: st) M :=
  j_isub C dd (by rw [pk_sub hb]; exact kk)
end QD
set_option maxHeartbeats 4000000 in
set_option maxRecDepth 100000 in
theorem sp_X4_at (G : gG) (M : gMem) {t k : Nat} (ht : gTr t) (hk : k < 8) : SpR G mX4_at (gRm 0 0) [.ref (gb G + t), .int (nI k)] M (some (.int (M.1 (t + 1) k))) M := by
  refine Sp.of (by decide +kernel) (Nat.le_of_ble_eq_true rfl) (fun X C CM => ?_)
  have C : gC G X RX4 cX4_at 2 (gRm 0 0) := C
  refine j_iload_n C dX4_at_0 rfl ?_
  refine j_if_lt C 22 dX4_at_1 (fun h => absurd h (nI_pos (by omega))) (fun _ => ?_) (by decide)
  refine j_iload_n C dX4_at_4 rfl ?_
  refine j_aload_n C dX4_at_5 rfl ?_
  refine q_get C fX4 0 (ht).1 (gTr_lt ht) (by decide) lf_X4_9 rfl (gFs_tr0 ht) dX4_at_6 ?_
  refine q_alen C (ht).2.1 (ht).2.2.1 dX4_at_9 ?_
  refine q_icmp_ge C 22 dX4_at_10 (by decide) (by omega) (by omega) (fun h10 => ?_) (fun h10 => ?_)
  · omega
  · refine j_aload_n C dX4_at_13 rfl ?_
    refine q_get C fX4 0 (ht).1 (gTr_lt ht) (by decide) lf_X4_9 rfl (gFs_tr0 ht) dX4_at_14 ?_
    refine j_iload_n C dX4_at_17 rfl ?_
    refine q_iald C (ht).2.1 (ht).2.2.1 (by decide) (by omega) dX4_at_18 ?_
    refine j_goto C 23 dX4_at_19 ?_ (by decide)
    exact q_iret C CM rfl (by decide) (by decide) dX4_at_23 rfl rfl
set_option maxHeartbeats 4000000 in
set_option maxRecDepth 100000 in
theorem sp_X4_put (G : gG) (M : gMem) {t k : Nat} {v : Int32} (ht : gTr t) (hk : k < 8) : SpR G mX4_put (gRm 0 0) [.ref (gb G + t), .int (nI k), .int v] M (none) (sI M (t + 1) (upd (M.1 (t + 1)) k v)) := by
  refine Sp.of (by decide +kernel) (Nat.le_of_ble_eq_true rfl) (fun X C CM => ?_)
  have C : gC G X RX4 cX4_put 3 (gRm 0 0) := C
  refine j_iload_n C dX4_put_0 rfl ?_
  refine j_if_lt C 20 dX4_put_1 (fun h => absurd h (nI_pos (by omega))) (fun _ => ?_) (by decide)
  refine j_iload_n C dX4_put_4 rfl ?_
  refine j_aload_n C dX4_put_5 rfl ?_
  refine q_get C fX4 0 (ht).1 (gTr_lt ht) (by decide) lf_X4_9 rfl (gFs_tr0 ht) dX4_put_6 ?_
  refine q_alen C (ht).2.1 (ht).2.2.1 dX4_put_9 ?_
  refine q_icmp_ge C 20 dX4_put_10 (by decide) (by omega) (by omega) (fun h10 => ?_) (fun h10 => ?_)
  · omega
  · refine j_aload_n C dX4_put_13 rfl ?_
    refine q_get C fX4 0 (ht).1 (gTr_lt ht) (by decide) lf_X4_9 rfl (gFs_tr0 ht) dX4_put_14 ?_
    refine j_iload_n C dX4_put_17 rfl ?_
    refine j_iload_n C dX4_put_18 rfl ?_
    refine q_iast C (ht).2.1 (ht).2.2.1 (by decide) (by omega) dX4_put_19 ?_
    exact q_vret C CM rfl (by decide) (by decide) dX4_put_20 rfl
set_option maxHeartbeats 4000000 in
set_option maxRecDepth 100000 in
theorem sp_X4_copy (G : gG) (M : gMem) {t u : Nat} (ht : gTr t) (hu : gTr u) (hn : u ≠ t) : SpR G mX4_copy (gRm 1 0) [.ref (gb G + t), .ref (gb G + u)] M (none) (sI M (t + 1) (cpF (M.1 (u + 1)) (M.1 (t + 1)) 8)) := by
  refine Sp.of (by decide +kernel) (Nat.le_of_ble_eq_true rfl) (fun X C CM => ?_)
  have C : gC G X RX4 cX4_copy 3 (gRm 1 0) := C
  refine j_iconst C (v := nI 0) dX4_copy_0 rfl ?_
  refine j_istore_n C dX4_copy_1 (by decide) rfl ?_
  have K2 : ∀ i, i ≤ 8 → Q G X 0 0 2 [some (.ref (gb G + t)), some (.ref (gb G + u)), some (.int (nI i))] [] ((sI M (t + 1) (cpF (M.1 (u + 1)) (M.1 (t + 1)) i))) := by
    refine g_up _ _ (fun i hi ih => ?_)
    refine j_iload_n C dX4_copy_2 rfl ?_
    refine j_aload_n C dX4_copy_3 rfl ?_
    refine q_get C fX4 0 (ht).1 (gTr_lt ht) (by decide) lf_X4_9 rfl (gFs_tr0 ht) dX4_copy_4 ?_
    refine q_alen C (ht).2.1 (ht).2.2.1 dX4_copy_7 ?_
    refine q_icmp_ge C 28 dX4_copy_8 (by decide) (by omega) (by omega) (fun h8 => ?_) (fun h8 => ?_)
    · exact q_vret C CM rfl (by decide) (by decide) dX4_copy_28 (by rw [show i = 8 by omega])
    · refine j_aload_n C dX4_copy_11 rfl ?_
      refine q_get C fX4 0 (ht).1 (gTr_lt ht) (by decide) lf_X4_9 rfl (gFs_tr0 ht) dX4_copy_12 ?_
      refine j_iload_n C dX4_copy_15 rfl ?_
      refine j_aload_n C dX4_copy_16 rfl ?_
      refine j_iload_n C dX4_copy_17 rfl ?_
      refine q_callV C (sp_X4_at G _ hu h8) vX4_at lk_X4_15 (hu).1 (gTr_lt hu) rfl rfl (Nat.le_of_ble_eq_true rfl) (by decide) dX4_copy_18 ?_
      refine q_iast C (ht).2.1 (ht).2.2.1 (by decide) (by omega) dX4_copy_21 ?_
      refine q_iinc C dX4_copy_22 rfl (by decide) rfl ?_
      refine j_goto C 2 dX4_copy_25 ?_ (by decide)
      exact q_cast (ih (by omega)) (gLe_c rfl (gLe_c rfl (gLe_c rfl gLe_0))) (by rw [sI_sI, sI_s, sI_n _ _ (show u + 1 ≠ t + 1 by omega), cpF_s])
  exact q_cast (K2 0 (by omega)) (gLe_c rfl (gLe_c rfl (gLe_c rfl gLe_0))) (by rw [cpF_0, sI_id])
set_option maxHeartbeats 4000000 in
set_option maxRecDepth 100000 in
theorem sp_X4_differences (G : gG) (M : gMem) {t u : Nat} (ht : gTr t) (hu : gTr u) : SpR G mX4_differences (gRm 1 0) [.ref (gb G + t), .ref (gb G + u)] M (some (.int (nI (cntN (fun p => decide (¬ M.1 (t + 1) p = M.1 (u + 1) p)) 8)))) M := by
  refine Sp.of (by decide +kernel) (Nat.le_of_ble_eq_true rfl) (fun X C CM => ?_)
  have C : gC G X RX4 cX4_differences 4 (gRm 1 0) := C
  refine j_iconst C (v := nI 0) dX4_differences_0 rfl ?_
  refine j_istore_n C dX4_differences_1 (by decide) rfl ?_
  refine j_iconst C (v := nI 0) dX4_differences_2 rfl ?_
  refine j_istore_n C dX4_differences_3 (by decide) rfl ?_
  have K4 : ∀ i, i ≤ 8 → Q G X 0 0 4 [some (.ref (gb G + t)), some (.ref (gb G + u)), some (.int (nI (cntN (fun p => decide (¬ M.1 (t + 1) p = M.1 (u + 1) p)) i))), some (.int (nI i))] [] (M) := by
    refine g_up _ _ (fun i hi ih => ?_)
    refine j_iload_n C dX4_differences_4 rfl ?_
    refine j_aload_n C dX4_differences_5 rfl ?_
    refine q_get C fX4 0 (ht).1 (gTr_lt ht) (by decide) lf_X4_9 rfl (gFs_tr0 ht) dX4_differences_6 ?_
    refine q_alen C (ht).2.1 (ht).2.2.1 dX4_differences_9 ?_
    refine q_icmp_ge C 36 dX4_differences_10 (by decide) (by omega) (by omega) (fun h10 => ?_) (fun h10 => ?_)
    · refine j_iload_n C dX4_differences_36 rfl ?_
      exact q_iret C CM rfl (by decide) (by decide) dX4_differences_37 (by rw [show i = 8 by omega]) rfl
    · refine j_aload_n C dX4_differences_13 rfl ?_
      refine q_get C fX4 0 (ht).1 (gTr_lt ht) (by decide) lf_X4_9 rfl (gFs_tr0 ht) dX4_differences_14 ?_
      refine j_iload_n C dX4_differences_17 rfl ?_
      refine q_iald C (ht).2.1 (ht).2.2.1 (by decide) (by omega) dX4_differences_18 ?_
      refine j_aload_n C dX4_differences_19 rfl ?_
      refine j_iload_n C dX4_differences_20 rfl ?_
      refine q_callV C (sp_X4_at G _ hu h10) vX4_at lk_X4_15 (hu).1 (gTr_lt hu) rfl rfl (Nat.le_of_ble_eq_true rfl) (by decide) dX4_differences_21 ?_
      refine j_icmp_eq C 30 dX4_differences_24 (fun h24 => ?_) (fun h24 => ?_) (by decide)
      · refine q_iinc C dX4_differences_30 rfl (by decide) rfl ?_
        refine j_goto C 4 dX4_differences_33 ?_ (by decide)
        exact q_cast (ih (by omega)) (gLe_c rfl (gLe_c rfl (gLe_c (by first | rw [cnt_t (decide_eq_true h24)] | rw [cnt_f (decide_eq_false (fun q => q h24))]) (gLe_c rfl gLe_0)))) (rfl)
      · refine q_iinc C dX4_differences_27 rfl (by decide) rfl ?_
        refine q_iinc C dX4_differences_30 rfl (by decide) rfl ?_
        refine j_goto C 4 dX4_differences_33 ?_ (by decide)
        exact q_cast (ih (by omega)) (gLe_c rfl (gLe_c rfl (gLe_c (by first | rw [cnt_t (decide_eq_true h24)] | rw [cnt_f (decide_eq_false (fun q => q h24))]) (gLe_c rfl gLe_0)))) (rfl)
  exact q_cast (K4 0 (by omega)) (gLe_c rfl (gLe_c rfl (gLe_c rfl (gLe_c rfl gLe_0)))) (rfl)
set_option maxHeartbeats 4000000 in
set_option maxRecDepth 100000 in
theorem sp_X4_countFiles (G : gG) (M : gMem) {t : Nat} (ht : gTr t) : SpR G mX4_countFiles (gRm 0 0) [.ref (gb G + t)] M (some (.int (nI (cntN (fun p => decide (¬ M.1 (t + 1) p = -1)) 8)))) M := by
  refine Sp.of (by decide +kernel) (Nat.le_of_ble_eq_true rfl) (fun X C CM => ?_)
  have C : gC G X RX4 cX4_countFiles 3 (gRm 0 0) := C
  refine j_iconst C (v := nI 0) dX4_countFiles_0 rfl ?_
  refine j_istore_n C dX4_countFiles_1 (by decide) rfl ?_
  refine j_iconst C (v := nI 0) dX4_countFiles_2 rfl ?_
  refine j_istore_n C dX4_countFiles_3 (by decide) rfl ?_
  have K4 : ∀ i, i ≤ 8 → Q G X 0 0 4 [some (.ref (gb G + t)), some (.int (nI (cntN (fun p => decide (¬ M.1 (t + 1) p = -1)) i))), some (.int (nI i))] [] (M) := by
    refine g_up _ _ (fun i hi ih => ?_)
    refine j_iload_n C dX4_countFiles_4 rfl ?_
    refine j_aload_n C dX4_countFiles_5 rfl ?_
    refine q_get C fX4 0 (ht).1 (gTr_lt ht) (by decide) lf_X4_9 rfl (gFs_tr0 ht) dX4_countFiles_6 ?_
    refine q_alen C (ht).2.1 (ht).2.2.1 dX4_countFiles_9 ?_
    refine q_icmp_ge C 32 dX4_countFiles_10 (by decide) (by omega) (by omega) (fun h10 => ?_) (fun h10 => ?_)
    · refine j_iload_n C dX4_countFiles_32 rfl ?_
      exact q_iret C CM rfl (by decide) (by decide) dX4_countFiles_33 (by rw [show i = 8 by omega]) rfl
    · refine j_aload_n C dX4_countFiles_13 rfl ?_
      refine q_get C fX4 0 (ht).1 (gTr_lt ht) (by decide) lf_X4_9 rfl (gFs_tr0 ht) dX4_countFiles_14 ?_
      refine j_iload_n C dX4_countFiles_17 rfl ?_
      refine q_iald C (ht).2.1 (ht).2.2.1 (by decide) (by omega) dX4_countFiles_18 ?_
      refine j_iconst C (v := -1) dX4_countFiles_19 rfl ?_
      refine j_icmp_eq C 26 dX4_countFiles_20 (fun h20 => ?_) (fun h20 => ?_) (by decide)
      · refine q_iinc C dX4_countFiles_26 rfl (by decide) rfl ?_
        refine j_goto C 4 dX4_countFiles_29 ?_ (by decide)
        exact q_cast (ih (by omega)) (gLe_c rfl (gLe_c (by first | rw [cnt_t (decide_eq_true h20)] | rw [cnt_f (decide_eq_false (fun q => q h20))]) (gLe_c rfl gLe_0))) (rfl)
      · refine q_iinc C dX4_countFiles_23 rfl (by decide) rfl ?_
        refine q_iinc C dX4_countFiles_26 rfl (by decide) rfl ?_
        refine j_goto C 4 dX4_countFiles_29 ?_ (by decide)
        exact q_cast (ih (by omega)) (gLe_c rfl (gLe_c (by first | rw [cnt_t (decide_eq_true h20)] | rw [cnt_f (decide_eq_false (fun q => q h20))]) (gLe_c rfl gLe_0))) (rfl)
  exact q_cast (K4 0 (by omega)) (gLe_c rfl (gLe_c rfl (gLe_c rfl gLe_0))) (rfl)
set_option maxHeartbeats 4000000 in
set_option maxRecDepth 100000 in
theorem sp_X2_likeness (G : gG) (M : gMem) {a b : Nat} (ha : a < 10000) (hb : b < 10000) : SpR G mX2_likeness (gRm 0 0) [.int (nI a), .int (nI b)] M (some (.int (nI (like a b)))) M := by
  refine Sp.of (by decide +kernel) (Nat.le_of_ble_eq_true rfl) (fun X C CM => ?_)
  have C : gC G X RX2 cX2_likeness 6 (gRm 0 0) := C
  refine j_iconst C (v := nI 0) dX2_likeness_0 rfl ?_
  refine j_istore_n C dX2_likeness_1 (by decide) rfl ?_
  refine j_iload_n C dX2_likeness_2 rfl ?_
  refine j_istore_n C dX2_likeness_3 (by decide) rfl ?_
  refine j_iload_n C dX2_likeness_4 rfl ?_
  refine j_istore C dX2_likeness_5 (by decide) rfl ?_
  refine j_iconst C (v := nI 0) dX2_likeness_7 rfl ?_
  refine j_istore C dX2_likeness_8 (by decide) rfl ?_
  have K10 : ∀ i, i ≤ 4 → Q G X 0 0 10 [some (.int (nI a)), some (.int (nI b)), some (.int (nI (cntN (fun k => decide (dg a k = dg b k)) i))), some (.int (nI (a / 10 ^ i))), some (.int (nI (b / 10 ^ i))), some (.int (nI i))] [] (M) := by
    refine g_up _ _ (fun i hi ih => ?_)
    refine j_iload C dX2_likeness_10 rfl ?_
    refine j_iconst C (v := nI 4) dX2_likeness_12 rfl ?_
    refine q_icmp_ge C 49 dX2_likeness_13 (by decide) (by omega) (by omega) (fun h13 => ?_) (fun h13 => ?_)
    · refine j_iload_n C dX2_likeness_49 rfl ?_
      exact q_iret C CM rfl (by decide) (by decide) dX2_likeness_50 (by rw [show i = 4 by omega]; rfl) rfl
    · refine j_iload_n C dX2_likeness_16 rfl ?_
      refine j_bipush C (v := nI 10) dX2_likeness_17 rfl ?_
      refine q_irem C (div_lt a i ha) (by decide) (by decide) dX2_likeness_19 ?_
      refine j_iload C dX2_likeness_20 rfl ?_
      refine j_bipush C (v := nI 10) dX2_likeness_22 rfl ?_
      refine q_irem C (div_lt b i hb) (by decide) (by decide) dX2_likeness_24 ?_
      have g1 : a / 10 ^ i % 10 < 10 := Nat.mod_lt _ (by decide)
      have g2 : b / 10 ^ i % 10 < 10 := Nat.mod_lt _ (by decide)
      refine q_icmp_ne C 31 dX2_likeness_25 (by decide) (by omega) (by omega) (fun h25 => ?_) (fun h25 => ?_)
      · refine j_iload_n C dX2_likeness_31 rfl ?_
        refine j_bipush C (v := nI 10) dX2_likeness_32 rfl ?_
        refine q_idiv C (div_lt a i ha) (by decide) (by decide) dX2_likeness_34 ?_
        refine j_istore_n C dX2_likeness_35 (by decide) rfl ?_
        refine j_iload C dX2_likeness_36 rfl ?_
        refine j_bipush C (v := nI 10) dX2_likeness_38 rfl ?_
        refine q_idiv C (div_lt b i hb) (by decide) (by decide) dX2_likeness_40 ?_
        refine j_istore C dX2_likeness_41 (by decide) rfl ?_
        refine q_iinc C dX2_likeness_43 rfl (by decide) rfl ?_
        refine j_goto C 10 dX2_likeness_46 ?_ (by decide)
        exact q_cast (ih (by omega)) (gLe_c rfl (gLe_c rfl (gLe_c (by first | rw [cnt_t (decide_eq_true h25)] | rw [cnt_f (decide_eq_false h25)]) (gLe_c (by rw [pow_s]) (gLe_c (by rw [pow_s]) (gLe_c rfl gLe_0)))))) (rfl)
      · refine q_iinc C dX2_likeness_28 rfl (by decide) rfl ?_
        refine j_iload_n C dX2_likeness_31 rfl ?_
        refine j_bipush C (v := nI 10) dX2_likeness_32 rfl ?_
        refine q_idiv C (div_lt a i ha) (by decide) (by decide) dX2_likeness_34 ?_
        refine j_istore_n C dX2_likeness_35 (by decide) rfl ?_
        refine j_iload C dX2_likeness_36 rfl ?_
        refine j_bipush C (v := nI 10) dX2_likeness_38 rfl ?_
        refine q_idiv C (div_lt b i hb) (by decide) (by decide) dX2_likeness_40 ?_
        refine j_istore C dX2_likeness_41 (by decide) rfl ?_
        refine q_iinc C dX2_likeness_43 rfl (by decide) rfl ?_
        refine j_goto C 10 dX2_likeness_46 ?_ (by decide)
        exact q_cast (ih (by omega)) (gLe_c rfl (gLe_c rfl (gLe_c (by first | rw [cnt_t (decide_eq_true h25)] | rw [cnt_f (decide_eq_false h25)]) (gLe_c (by rw [pow_s]) (gLe_c (by rw [pow_s]) (gLe_c rfl gLe_0)))))) (rfl)
  exact q_cast (K10 0 (by omega)) (gLe_c rfl (gLe_c rfl (gLe_c rfl (gLe_c (by rw [Nat.pow_zero, Nat.div_one]) (gLe_c (by rw [Nat.pow_zero, Nat.div_one]) (gLe_c rfl gLe_0)))))) (rfl)
set_option maxHeartbeats 4000000 in
set_option maxRecDepth 100000 in
theorem sp_X2_changed (G : gG) (M : gMem) {b o t : Nat} (hb : b < 2 ^ 31) (ho : o < 2 ^ 31) (ht : t < 2 ^ 31) : SpR G mX2_changed (gRm 0 0) [.int (nI b), .int (nI o), .int (nI t)] M (some (.int (oI (chgN b o t)))) M := by
  refine Sp.of (by decide +kernel) (Nat.le_of_ble_eq_true rfl) (fun X C CM => ?_)
  have C : gC G X RX2 cX2_changed 3 (gRm 0 0) := C
  refine j_iload_n C dX2_changed_0 rfl ?_
  refine j_iload_n C dX2_changed_1 rfl ?_
  refine q_icmp_ne C 7 dX2_changed_2 (by decide) (by omega) (by omega) (fun h2 => ?_) (fun h2 => ?_)
  · refine j_iload_n C dX2_changed_7 rfl ?_
    refine j_iload_n C dX2_changed_8 rfl ?_
    refine q_icmp_eq C 17 dX2_changed_9 (by decide) (by omega) (by omega) (fun h9 => ?_) (fun h9 => ?_)
    · refine j_iload_n C dX2_changed_17 rfl ?_
      refine j_goto C 22 dX2_changed_18 ?_ (by decide)
      exact q_iret C CM rfl (by decide) (by decide) dX2_changed_22 (by unfold chgN; simp only [oI, *]; first | rfl | (split <;> first | rfl | omega) | simp_all) rfl
    · refine j_iload_n C dX2_changed_12 rfl ?_
      refine j_iload_n C dX2_changed_13 rfl ?_
      refine q_icmp_ne C 21 dX2_changed_14 (by decide) (by omega) (by omega) (fun h14 => ?_) (fun h14 => ?_)
      · refine j_iconst C (v := -1) dX2_changed_21 rfl ?_
        exact q_iret C CM rfl (by decide) (by decide) dX2_changed_22 (by unfold chgN; simp only [oI, *]; first | rfl | (split <;> first | rfl | omega) | simp_all) rfl
      · refine j_iload_n C dX2_changed_17 rfl ?_
        refine j_goto C 22 dX2_changed_18 ?_ (by decide)
        exact q_iret C CM rfl (by decide) (by decide) dX2_changed_22 (by unfold chgN; simp only [oI, *]; first | rfl | (split <;> first | rfl | omega) | simp_all) rfl
  · refine j_iload_n C dX2_changed_5 rfl ?_
    exact q_iret C CM rfl (by decide) (by decide) dX2_changed_6 (by rw [show chgN b o t = some t from if_pos (by omega)]; rfl) rfl
set_option maxHeartbeats 4000000 in
set_option maxRecDepth 100000 in
theorem sp_X2_mergeContents (G : gG) (M : gMem) {a b c : Nat} (ha : a < 10000) (hb : b < 10000) (hc : c < 10000) : SpR G mX2_mergeContents (gRm 1 0) [.int (nI a), .int (nI b), .int (nI c)] M (some (.int (oI (mrgN a b c 4)))) M := by
  refine Sp.of (by decide +kernel) (Nat.le_of_ble_eq_true rfl) (fun X C CM => ?_)
  have C : gC G X RX2 cX2_mergeContents 10 (gRm 1 0) := C
  refine j_iload_n C dX2_mergeContents_0 rfl ?_
  refine j_istore_n C dX2_mergeContents_1 (by decide) rfl ?_
  refine j_iload_n C dX2_mergeContents_2 rfl ?_
  refine j_istore C dX2_mergeContents_3 (by decide) rfl ?_
  refine j_iload_n C dX2_mergeContents_5 rfl ?_
  refine j_istore C dX2_mergeContents_6 (by decide) rfl ?_
  refine j_iconst C (v := nI 0) dX2_mergeContents_8 rfl ?_
  refine j_istore C dX2_mergeContents_9 (by decide) rfl ?_
  refine j_iconst C (v := nI 1) dX2_mergeContents_11 rfl ?_
  refine j_istore C dX2_mergeContents_12 (by decide) rfl ?_
  refine j_iconst C (v := nI 0) dX2_mergeContents_14 rfl ?_
  refine j_istore C dX2_mergeContents_15 (by decide) rfl ?_
  have K17 : ∀ i, i ≤ 4 → ∀ m, mrgN a b c i = some m → Q G X 0 0 17 [some (.int (nI a)), some (.int (nI b)), some (.int (nI c)), some (.int (nI (a / 10 ^ i))), some (.int (nI (b / 10 ^ i))), some (.int (nI (c / 10 ^ i))), some (.int (nI m)), some (.int (nI (10 ^ i))), some (.int (nI i)), none] [] (M) := by
    refine g_up _ _ (fun i hi ih => ?_)
    intro m hm
    refine j_iload C dX2_mergeContents_17 rfl ?_
    refine j_iconst C (v := nI 4) dX2_mergeContents_19 rfl ?_
    refine q_icmp_ge C 92 dX2_mergeContents_20 (by decide) (by omega) (by omega) (fun h20 => ?_) (fun h20 => ?_)
    · refine j_iload C dX2_mergeContents_92 rfl ?_
      exact q_iret C CM rfl (by decide) (by decide) dX2_mergeContents_94 (by rw [show i = 4 by omega] at hm; rw [hm]; rfl) rfl
    · refine j_iload_n C dX2_mergeContents_23 rfl ?_
      refine j_bipush C (v := nI 10) dX2_mergeContents_24 rfl ?_
      refine q_irem C (div_lt a i ha) (by decide) (by decide) dX2_mergeContents_26 ?_
      refine j_iload C dX2_mergeContents_27 rfl ?_
      refine j_bipush C (v := nI 10) dX2_mergeContents_29 rfl ?_
      refine q_irem C (div_lt b i hb) (by decide) (by decide) dX2_mergeContents_31 ?_
      refine j_iload C dX2_mergeContents_32 rfl ?_
      refine j_bipush C (v := nI 10) dX2_mergeContents_34 rfl ?_
      refine q_irem C (div_lt c i hc) (by decide) (by decide) dX2_mergeContents_36 ?_
      refine q_callS C (sp_X2_changed G _ (b := dg a i) (o := dg b i) (t := dg c i) (Nat.lt_trans (dg_lt _ _) (by decide)) (Nat.lt_trans (dg_lt _ _) (by decide)) (Nat.lt_trans (dg_lt _ _) (by decide))) vX2_changed lk_X2_9 rfl rfl (Nat.le_of_ble_eq_true rfl) (by decide) dX2_mergeContents_37 ?_
      refine j_istore C dX2_mergeContents_40 (by decide) rfl ?_
      refine j_iload C dX2_mergeContents_42 rfl ?_
      refine j_iconst C (v := -1) dX2_mergeContents_44 rfl ?_
      refine q_icmp_neN C 50 dX2_mergeContents_45 (by decide) (fun v hv => Nat.lt_trans (chg_lt hv (dg_lt _ _) (dg_lt _ _)) (by decide)) (fun v45 h45 => ?_) (fun h45 => ?_)
      · rw [h45]
        refine j_iload C dX2_mergeContents_50 rfl ?_
        refine j_iload C dX2_mergeContents_52 rfl ?_
        refine j_iload C dX2_mergeContents_54 rfl ?_
        refine q_imul C dX2_mergeContents_56 ?_
        refine q_iadd C dX2_mergeContents_57 ?_
        refine j_istore C dX2_mergeContents_58 (by decide) rfl ?_
        refine j_iload C dX2_mergeContents_60 rfl ?_
        refine j_bipush C (v := nI 10) dX2_mergeContents_62 rfl ?_
        refine q_imul C dX2_mergeContents_64 ?_
        refine j_istore C dX2_mergeContents_65 (by decide) rfl ?_
        refine j_iload_n C dX2_mergeContents_67 rfl ?_
        refine j_bipush C (v := nI 10) dX2_mergeContents_68 rfl ?_
        refine q_idiv C (div_lt a i ha) (by decide) (by decide) dX2_mergeContents_70 ?_
        refine j_istore_n C dX2_mergeContents_71 (by decide) rfl ?_
        refine j_iload C dX2_mergeContents_72 rfl ?_
        refine j_bipush C (v := nI 10) dX2_mergeContents_74 rfl ?_
        refine q_idiv C (div_lt b i hb) (by decide) (by decide) dX2_mergeContents_76 ?_
        refine j_istore C dX2_mergeContents_77 (by decide) rfl ?_
        refine j_iload C dX2_mergeContents_79 rfl ?_
        refine j_bipush C (v := nI 10) dX2_mergeContents_81 rfl ?_
        refine q_idiv C (div_lt c i hc) (by decide) (by decide) dX2_mergeContents_83 ?_
        refine j_istore C dX2_mergeContents_84 (by decide) rfl ?_
        refine q_iinc C dX2_mergeContents_86 rfl (by decide) rfl ?_
        refine j_goto C 17 dX2_mergeContents_89 ?_ (by decide)
        exact q_cast (ih (by omega) _ (mrg_s hm h45)) (gLe_c rfl (gLe_c rfl (gLe_c rfl (gLe_c (by rw [pow_s]) (gLe_c (by rw [pow_s]) (gLe_c (by rw [pow_s]) (gLe_c rfl (gLe_c (by rw [Nat.pow_succ]) (gLe_c rfl (gLe_n gLe_0)))))))))) (rfl)
      · refine j_iconst C (v := -1) dX2_mergeContents_48 rfl ?_
        exact q_iret C CM rfl (by decide) (by decide) dX2_mergeContents_49 (by rw [show mrgN a b c 4 = none from by have := mrg_none (mrg_n (Or.inr h45)) (3 - i); rwa [show i + 1 + (3 - i) = 4 by omega] at this]; rfl) rfl
  exact q_cast (K17 0 (by omega) 0 rfl) (gLe_c rfl (gLe_c rfl (gLe_c rfl (gLe_c (by rw [Nat.pow_zero, Nat.div_one]) (gLe_c (by rw [Nat.pow_zero, Nat.div_one]) (gLe_c (by rw [Nat.pow_zero, Nat.div_one]) (gLe_c rfl (gLe_c rfl (gLe_c rfl (gLe_n gLe_0)))))))))) (rfl)
end
section
theorem gz_end : True := trivial
end
