section
-- ===== PART A: goes FIRST, ahead of the names: the tables' words, and 'selects' of the private methods out of them =====
/-- a private method of a class that the tables say can be made, by its rows of tables_1 -/
def lw_okq (q : MethodName × Nat) : Prop := (q.1.cls ≠ "java/lang/invoke/MethodHandle" ∧ q.1.cls ≠ "java/lang/invoke/VarHandle") ∧ Cond.instantiable q.1.cls q.2 ∈ tables_1 ∧ Cond.privateMethod q.1 ∈ tables_1 ∧ Cond.instanceMethod q.1 ∈ tables_1
theorem lw_p0 : lw_okq (⟨"FlockCounts", "tell", "(I)I"⟩, 7) := ⟨⟨by decide +kernel, by decide +kernel⟩, List.mem_of_getElem? (i := 15) (by decide +kernel), List.mem_of_getElem? (i := 148) (by decide +kernel), List.mem_of_getElem? (i := 149) (by decide +kernel)⟩
theorem lw_p1 : lw_okq (⟨"FlockCounts$Fold", "playMinute", "()V"⟩, 10) := ⟨⟨by decide +kernel, by decide +kernel⟩, List.mem_of_getElem? (i := 23) (by decide +kernel), List.mem_of_getElem? (i := 273) (by decide +kernel), List.mem_of_getElem? (i := 274) (by decide +kernel)⟩
theorem lw_p2 : lw_okq (⟨"FlockCounts$Fold", "pass", "(I)V"⟩, 10) := ⟨⟨by decide +kernel, by decide +kernel⟩, List.mem_of_getElem? (i := 23) (by decide +kernel), List.mem_of_getElem? (i := 282) (by decide +kernel), List.mem_of_getElem? (i := 283) (by decide +kernel)⟩
theorem lw_p3 : lw_okq (⟨"FlockCounts$Fold", "stayAlone", "()V"⟩, 10) := ⟨⟨by decide +kernel, by decide +kernel⟩, List.mem_of_getElem? (i := 23) (by decide +kernel), List.mem_of_getElem? (i := 294) (by decide +kernel), List.mem_of_getElem? (i := 295) (by decide +kernel)⟩
theorem lw_p4 : lw_okq (⟨"FlockCounts", "startTrial", "()V"⟩, 7) := ⟨⟨by decide +kernel, by decide +kernel⟩, List.mem_of_getElem? (i := 15) (by decide +kernel), List.mem_of_getElem? (i := 326) (by decide +kernel), List.mem_of_getElem? (i := 327) (by decide +kernel)⟩
theorem lw_p5 : lw_okq (⟨"FlockCounts", "withinWait", "(I)I"⟩, 7) := ⟨⟨by decide +kernel, by decide +kernel⟩, List.mem_of_getElem? (i := 15) (by decide +kernel), List.mem_of_getElem? (i := 346) (by decide +kernel), List.mem_of_getElem? (i := 347) (by decide +kernel)⟩
theorem lw_p6 : lw_okq (⟨"FlockCounts", "answer", "(I)I"⟩, 7) := ⟨⟨by decide +kernel, by decide +kernel⟩, List.mem_of_getElem? (i := 15) (by decide +kernel), List.mem_of_getElem? (i := 374) (by decide +kernel), List.mem_of_getElem? (i := 375) (by decide +kernel)⟩
theorem lw_p7 : lw_okq (⟨"FlockCounts", "wearWhenOut", "(II)I"⟩, 7) := ⟨⟨by decide +kernel, by decide +kernel⟩, List.mem_of_getElem? (i := 15) (by decide +kernel), List.mem_of_getElem? (i := 395) (by decide +kernel), List.mem_of_getElem? (i := 396) (by decide +kernel)⟩
theorem lw_p8 : lw_okq (⟨"FlockCounts$Tape", "nextToken", "()V"⟩, 5) := ⟨⟨by decide +kernel, by decide +kernel⟩, List.mem_of_getElem? (i := 71) (by decide +kernel), List.mem_of_getElem? (i := 444) (by decide +kernel), List.mem_of_getElem? (i := 445) (by decide +kernel)⟩
theorem lw_p9 : lw_okq (⟨"FlockCounts$Tape", "sortAt", "(I)I"⟩, 5) := ⟨⟨by decide +kernel, by decide +kernel⟩, List.mem_of_getElem? (i := 71) (by decide +kernel), List.mem_of_getElem? (i := 448) (by decide +kernel), List.mem_of_getElem? (i := 449) (by decide +kernel)⟩
theorem lw_p10 : lw_okq (⟨"FlockCounts$Tape", "takeItem", "(LFlockCounts$Fold;)Z"⟩, 5) := ⟨⟨by decide +kernel, by decide +kernel⟩, List.mem_of_getElem? (i := 71) (by decide +kernel), List.mem_of_getElem? (i := 453) (by decide +kernel), List.mem_of_getElem? (i := 454) (by decide +kernel)⟩
theorem lw_p11 : lw_okq (⟨"FlockCounts$Tape", "isWord", "(Ljava/lang/String;)Z"⟩, 5) := ⟨⟨by decide +kernel, by decide +kernel⟩, List.mem_of_getElem? (i := 71) (by decide +kernel), List.mem_of_getElem? (i := 458) (by decide +kernel), List.mem_of_getElem? (i := 459) (by decide +kernel)⟩
theorem lw_p12 : lw_okq (⟨"FlockCounts$Tape", "takeMan", "(LFlockCounts$Fold;)Z"⟩, 5) := ⟨⟨by decide +kernel, by decide +kernel⟩, List.mem_of_getElem? (i := 71) (by decide +kernel), List.mem_of_getElem? (i := 511) (by decide +kernel), List.mem_of_getElem? (i := 512) (by decide +kernel)⟩
theorem lw_p13 : lw_okq (⟨"FlockCounts$Tape", "takeWord", "(Ljava/lang/String;)Z"⟩, 5) := ⟨⟨by decide +kernel, by decide +kernel⟩, List.mem_of_getElem? (i := 71) (by decide +kernel), List.mem_of_getElem? (i := 516) (by decide +kernel), List.mem_of_getElem? (i := 517) (by decide +kernel)⟩
theorem lw_p14 : lw_okq (⟨"FlockCounts$Tape", "takeNumberAfter", "(Ljava/lang/String;II)I"⟩, 5) := ⟨⟨by decide +kernel, by decide +kernel⟩, List.mem_of_getElem? (i := 71) (by decide +kernel), List.mem_of_getElem? (i := 523) (by decide +kernel), List.mem_of_getElem? (i := 524) (by decide +kernel)⟩
theorem lw_p15 : lw_okq (⟨"FlockCounts$Tape", "numberHere", "()I"⟩, 5) := ⟨⟨by decide +kernel, by decide +kernel⟩, List.mem_of_getElem? (i := 71) (by decide +kernel), List.mem_of_getElem? (i := 527) (by decide +kernel), List.mem_of_getElem? (i := 528) (by decide +kernel)⟩
def lw_privs_1 : List (MethodName × Nat) := [(⟨"FlockCounts", "tell", "(I)I"⟩, 7), (⟨"FlockCounts$Fold", "playMinute", "()V"⟩, 10), (⟨"FlockCounts$Fold", "pass", "(I)V"⟩, 10), (⟨"FlockCounts$Fold", "stayAlone", "()V"⟩, 10), (⟨"FlockCounts", "startTrial", "()V"⟩, 7), (⟨"FlockCounts", "withinWait", "(I)I"⟩, 7), (⟨"FlockCounts", "answer", "(I)I"⟩, 7), (⟨"FlockCounts", "wearWhenOut", "(II)I"⟩, 7), (⟨"FlockCounts$Tape", "nextToken", "()V"⟩, 5), (⟨"FlockCounts$Tape", "sortAt", "(I)I"⟩, 5), (⟨"FlockCounts$Tape", "takeItem", "(LFlockCounts$Fold;)Z"⟩, 5), (⟨"FlockCounts$Tape", "isWord", "(Ljava/lang/String;)Z"⟩, 5), (⟨"FlockCounts$Tape", "takeMan", "(LFlockCounts$Fold;)Z"⟩, 5), (⟨"FlockCounts$Tape", "takeWord", "(Ljava/lang/String;)Z"⟩, 5), (⟨"FlockCounts$Tape", "takeNumberAfter", "(Ljava/lang/String;II)I"⟩, 5), (⟨"FlockCounts$Tape", "numberHere", "()I"⟩, 5)]
theorem lw_r1 : ∀ q ∈ lw_privs_1, lw_okq q := List.forall_mem_cons.mpr ⟨lw_p0, List.forall_mem_cons.mpr ⟨lw_p1, List.forall_mem_cons.mpr ⟨lw_p2, List.forall_mem_cons.mpr ⟨lw_p3, List.forall_mem_cons.mpr ⟨lw_p4, List.forall_mem_cons.mpr ⟨lw_p5, List.forall_mem_cons.mpr ⟨lw_p6, List.forall_mem_cons.mpr ⟨lw_p7, List.forall_mem_cons.mpr ⟨lw_p8, List.forall_mem_cons.mpr ⟨lw_p9, List.forall_mem_cons.mpr ⟨lw_p10, List.forall_mem_cons.mpr ⟨lw_p11, List.forall_mem_cons.mpr ⟨lw_p12, List.forall_mem_cons.mpr ⟨lw_p13, List.forall_mem_cons.mpr ⟨lw_p14, List.forall_mem_cons.mpr ⟨lw_p15, fun _ h => absurd h List.not_mem_nil⟩⟩⟩⟩⟩⟩⟩⟩⟩⟩⟩⟩⟩⟩⟩⟩
theorem lw_p16 : lw_okq (⟨"FlockCounts$Tape", "kindNamed", "()I"⟩, 5) := ⟨⟨by decide +kernel, by decide +kernel⟩, List.mem_of_getElem? (i := 71) (by decide +kernel), List.mem_of_getElem? (i := 532) (by decide +kernel), List.mem_of_getElem? (i := 533) (by decide +kernel)⟩
theorem lw_p17 : lw_okq (⟨"FlockCounts$Tape", "takeSheep", "(LFlockCounts$Fold;I)Z"⟩, 5) := ⟨⟨by decide +kernel, by decide +kernel⟩, List.mem_of_getElem? (i := 71) (by decide +kernel), List.mem_of_getElem? (i := 547) (by decide +kernel), List.mem_of_getElem? (i := 548) (by decide +kernel)⟩
theorem lw_p18 : lw_okq (⟨"FlockCounts", "isSheet", "(I)Z"⟩, 7) := ⟨⟨by decide +kernel, by decide +kernel⟩, List.mem_of_getElem? (i := 15) (by decide +kernel), List.mem_of_getElem? (i := 558) (by decide +kernel), List.mem_of_getElem? (i := 559) (by decide +kernel)⟩
theorem lw_p19 : lw_okq (⟨"FlockCounts", "missingSheet", "(I)I"⟩, 7) := ⟨⟨by decide +kernel, by decide +kernel⟩, List.mem_of_getElem? (i := 15) (by decide +kernel), List.mem_of_getElem? (i := 574) (by decide +kernel), List.mem_of_getElem? (i := 575) (by decide +kernel)⟩
theorem lw_p20 : lw_okq (⟨"FlockCounts", "trialSees", "(LFlockCounts$Sheet;I)Z"⟩, 7) := ⟨⟨by decide +kernel, by decide +kernel⟩, List.mem_of_getElem? (i := 15) (by decide +kernel), List.mem_of_getElem? (i := 611) (by decide +kernel), List.mem_of_getElem? (i := 612) (by decide +kernel)⟩
theorem lw_p21 : lw_okq (⟨"FlockCountsModel", "finds", "(I)I"⟩, 18) := ⟨⟨by decide +kernel, by decide +kernel⟩, List.mem_of_getElem? (i := 639) (by decide +kernel), List.mem_of_getElem? (i := 712) (by decide +kernel), List.mem_of_getElem? (i := 713) (by decide +kernel)⟩
theorem lw_p22 : lw_okq (⟨"FlockCountsModel", "addsMan", "(I)I"⟩, 18) := ⟨⟨by decide +kernel, by decide +kernel⟩, List.mem_of_getElem? (i := 639) (by decide +kernel), List.mem_of_getElem? (i := 717) (by decide +kernel), List.mem_of_getElem? (i := 718) (by decide +kernel)⟩
theorem lw_p23 : lw_okq (⟨"FlockCountsModel", "isMan", "(I)Z"⟩, 18) := ⟨⟨by decide +kernel, by decide +kernel⟩, List.mem_of_getElem? (i := 639) (by decide +kernel), List.mem_of_getElem? (i := 728) (by decide +kernel), List.mem_of_getElem? (i := 729) (by decide +kernel)⟩
theorem lw_p24 : lw_okq (⟨"FlockCountsModel", "his", "(II)I"⟩, 18) := ⟨⟨by decide +kernel, by decide +kernel⟩, List.mem_of_getElem? (i := 639) (by decide +kernel), List.mem_of_getElem? (i := 732) (by decide +kernel), List.mem_of_getElem? (i := 733) (by decide +kernel)⟩
theorem lw_p25 : lw_okq (⟨"FlockCountsModel", "becomes", "(II)I"⟩, 18) := ⟨⟨by decide +kernel, by decide +kernel⟩, List.mem_of_getElem? (i := 639) (by decide +kernel), List.mem_of_getElem? (i := 741) (by decide +kernel), List.mem_of_getElem? (i := 742) (by decide +kernel)⟩
theorem lw_p26 : lw_okq (⟨"FlockCountsModel", "adds", "(I)I"⟩, 18) := ⟨⟨by decide +kernel, by decide +kernel⟩, List.mem_of_getElem? (i := 639) (by decide +kernel), List.mem_of_getElem? (i := 762) (by decide +kernel), List.mem_of_getElem? (i := 763) (by decide +kernel)⟩
theorem lw_p27 : lw_okq (⟨"FlockCountsModel", "isSheep", "(I)Z"⟩, 18) := ⟨⟨by decide +kernel, by decide +kernel⟩, List.mem_of_getElem? (i := 639) (by decide +kernel), List.mem_of_getElem? (i := 773) (by decide +kernel), List.mem_of_getElem? (i := 774) (by decide +kernel)⟩
theorem lw_p28 : lw_okq (⟨"FlockCountsModel", "isAsleep", "(I)Z"⟩, 18) := ⟨⟨by decide +kernel, by decide +kernel⟩, List.mem_of_getElem? (i := 639) (by decide +kernel), List.mem_of_getElem? (i := 777) (by decide +kernel), List.mem_of_getElem? (i := 778) (by decide +kernel)⟩
theorem lw_p29 : lw_okq (⟨"FlockCountsModel", "its", "(II)I"⟩, 18) := ⟨⟨by decide +kernel, by decide +kernel⟩, List.mem_of_getElem? (i := 639) (by decide +kernel), List.mem_of_getElem? (i := 781) (by decide +kernel), List.mem_of_getElem? (i := 782) (by decide +kernel)⟩
theorem lw_p30 : lw_okq (⟨"FlockCountsModel", "wakesOf", "(I)I"⟩, 18) := ⟨⟨by decide +kernel, by decide +kernel⟩, List.mem_of_getElem? (i := 639) (by decide +kernel), List.mem_of_getElem? (i := 785) (by decide +kernel), List.mem_of_getElem? (i := 786) (by decide +kernel)⟩
theorem lw_p31 : lw_okq (⟨"FlockCountsModel", "tiresOf", "(I)I"⟩, 18) := ⟨⟨by decide +kernel, by decide +kernel⟩, List.mem_of_getElem? (i := 639) (by decide +kernel), List.mem_of_getElem? (i := 789) (by decide +kernel), List.mem_of_getElem? (i := 790) (by decide +kernel)⟩
def lw_privs_2 : List (MethodName × Nat) := [(⟨"FlockCounts$Tape", "kindNamed", "()I"⟩, 5), (⟨"FlockCounts$Tape", "takeSheep", "(LFlockCounts$Fold;I)Z"⟩, 5), (⟨"FlockCounts", "isSheet", "(I)Z"⟩, 7), (⟨"FlockCounts", "missingSheet", "(I)I"⟩, 7), (⟨"FlockCounts", "trialSees", "(LFlockCounts$Sheet;I)Z"⟩, 7), (⟨"FlockCountsModel", "finds", "(I)I"⟩, 18), (⟨"FlockCountsModel", "addsMan", "(I)I"⟩, 18), (⟨"FlockCountsModel", "isMan", "(I)Z"⟩, 18), (⟨"FlockCountsModel", "his", "(II)I"⟩, 18), (⟨"FlockCountsModel", "becomes", "(II)I"⟩, 18), (⟨"FlockCountsModel", "adds", "(I)I"⟩, 18), (⟨"FlockCountsModel", "isSheep", "(I)Z"⟩, 18), (⟨"FlockCountsModel", "isAsleep", "(I)Z"⟩, 18), (⟨"FlockCountsModel", "its", "(II)I"⟩, 18), (⟨"FlockCountsModel", "wakesOf", "(I)I"⟩, 18), (⟨"FlockCountsModel", "tiresOf", "(I)I"⟩, 18)]
theorem lw_r2 : ∀ q ∈ lw_privs_2, lw_okq q := List.forall_mem_cons.mpr ⟨lw_p16, List.forall_mem_cons.mpr ⟨lw_p17, List.forall_mem_cons.mpr ⟨lw_p18, List.forall_mem_cons.mpr ⟨lw_p19, List.forall_mem_cons.mpr ⟨lw_p20, List.forall_mem_cons.mpr ⟨lw_p21, List.forall_mem_cons.mpr ⟨lw_p22, List.forall_mem_cons.mpr ⟨lw_p23, List.forall_mem_cons.mpr ⟨lw_p24, List.forall_mem_cons.mpr ⟨lw_p25, List.forall_mem_cons.mpr ⟨lw_p26, List.forall_mem_cons.mpr ⟨lw_p27, List.forall_mem_cons.mpr ⟨lw_p28, List.forall_mem_cons.mpr ⟨lw_p29, List.forall_mem_cons.mpr ⟨lw_p30, List.forall_mem_cons.mpr ⟨lw_p31, fun _ h => absurd h List.not_mem_nil⟩⟩⟩⟩⟩⟩⟩⟩⟩⟩⟩⟩⟩⟩⟩⟩
theorem lw_p32 : lw_okq (⟨"FlockCountsModel", "countsOf", "(II)I"⟩, 18) := ⟨⟨by decide +kernel, by decide +kernel⟩, List.mem_of_getElem? (i := 639) (by decide +kernel), List.mem_of_getElem? (i := 814) (by decide +kernel), List.mem_of_getElem? (i := 815) (by decide +kernel)⟩
theorem lw_p33 : lw_okq (⟨"FlockCountsModel", "minutesGo", "(I)V"⟩, 18) := ⟨⟨by decide +kernel, by decide +kernel⟩, List.mem_of_getElem? (i := 639) (by decide +kernel), List.mem_of_getElem? (i := 828) (by decide +kernel), List.mem_of_getElem? (i := 829) (by decide +kernel)⟩
theorem lw_p34 : lw_okq (⟨"FlockCountsModel", "minute", "()V"⟩, 18) := ⟨⟨by decide +kernel, by decide +kernel⟩, List.mem_of_getElem? (i := 639) (by decide +kernel), List.mem_of_getElem? (i := 832) (by decide +kernel), List.mem_of_getElem? (i := 833) (by decide +kernel)⟩
theorem lw_p35 : lw_okq (⟨"FlockCountsModel", "isPassing", "(I)Z"⟩, 18) := ⟨⟨by decide +kernel, by decide +kernel⟩, List.mem_of_getElem? (i := 639) (by decide +kernel), List.mem_of_getElem? (i := 836) (by decide +kernel), List.mem_of_getElem? (i := 837) (by decide +kernel)⟩
theorem lw_p36 : lw_okq (⟨"FlockCountsModel", "passes", "(I)V"⟩, 18) := ⟨⟨by decide +kernel, by decide +kernel⟩, List.mem_of_getElem? (i := 639) (by decide +kernel), List.mem_of_getElem? (i := 840) (by decide +kernel), List.mem_of_getElem? (i := 841) (by decide +kernel)⟩
theorem lw_p37 : lw_okq (⟨"FlockCountsModel", "nobodyPasses", "()V"⟩, 18) := ⟨⟨by decide +kernel, by decide +kernel⟩, List.mem_of_getElem? (i := 639) (by decide +kernel), List.mem_of_getElem? (i := 847) (by decide +kernel), List.mem_of_getElem? (i := 848) (by decide +kernel)⟩
theorem lw_p38 : lw_okq (⟨"FlockCountsModel", "asleep", "()I"⟩, 18) := ⟨⟨by decide +kernel, by decide +kernel⟩, List.mem_of_getElem? (i := 639) (by decide +kernel), List.mem_of_getElem? (i := 851) (by decide +kernel), List.mem_of_getElem? (i := 852) (by decide +kernel)⟩
theorem lw_p39 : lw_okq (⟨"FlockCountsModel", "together", "(I)I"⟩, 18) := ⟨⟨by decide +kernel, by decide +kernel⟩, List.mem_of_getElem? (i := 639) (by decide +kernel), List.mem_of_getElem? (i := 859) (by decide +kernel), List.mem_of_getElem? (i := 860) (by decide +kernel)⟩
theorem lw_p40 : lw_okq (⟨"FlockCountsModel", "wearOf", "(I)I"⟩, 18) := ⟨⟨by decide +kernel, by decide +kernel⟩, List.mem_of_getElem? (i := 639) (by decide +kernel), List.mem_of_getElem? (i := 863) (by decide +kernel), List.mem_of_getElem? (i := 864) (by decide +kernel)⟩
theorem lw_p41 : lw_okq (⟨"FlockCountsModel", "passing", "()I"⟩, 18) := ⟨⟨by decide +kernel, by decide +kernel⟩, List.mem_of_getElem? (i := 639) (by decide +kernel), List.mem_of_getElem? (i := 867) (by decide +kernel), List.mem_of_getElem? (i := 868) (by decide +kernel)⟩
theorem lw_p42 : lw_okq (⟨"FlockCountsModel", "behind", "(II)I"⟩, 18) := ⟨⟨by decide +kernel, by decide +kernel⟩, List.mem_of_getElem? (i := 639) (by decide +kernel), List.mem_of_getElem? (i := 875) (by decide +kernel), List.mem_of_getElem? (i := 876) (by decide +kernel)⟩
theorem lw_p43 : lw_okq (⟨"FlockCountsModel", "laysAside", "()V"⟩, 18) := ⟨⟨by decide +kernel, by decide +kernel⟩, List.mem_of_getElem? (i := 639) (by decide +kernel), List.mem_of_getElem? (i := 879) (by decide +kernel), List.mem_of_getElem? (i := 880) (by decide +kernel)⟩
theorem lw_p44 : lw_okq (⟨"FlockCountsModel", "takesBack", "(I)I"⟩, 18) := ⟨⟨by decide +kernel, by decide +kernel⟩, List.mem_of_getElem? (i := 639) (by decide +kernel), List.mem_of_getElem? (i := 883) (by decide +kernel), List.mem_of_getElem? (i := 884) (by decide +kernel)⟩
theorem lw_p45 : lw_okq (⟨"FlockCountsModel", "firstAs", "(III)I"⟩, 18) := ⟨⟨by decide +kernel, by decide +kernel⟩, List.mem_of_getElem? (i := 639) (by decide +kernel), List.mem_of_getElem? (i := 895) (by decide +kernel), List.mem_of_getElem? (i := 896) (by decide +kernel)⟩
theorem lw_p46 : lw_okq (⟨"FlockCountsModel", "orNone", "(II)I"⟩, 18) := ⟨⟨by decide +kernel, by decide +kernel⟩, List.mem_of_getElem? (i := 639) (by decide +kernel), List.mem_of_getElem? (i := 899) (by decide +kernel), List.mem_of_getElem? (i := 900) (by decide +kernel)⟩
theorem lw_p47 : lw_okq (⟨"FlockCountsModel", "quietIn", "(I)I"⟩, 18) := ⟨⟨by decide +kernel, by decide +kernel⟩, List.mem_of_getElem? (i := 639) (by decide +kernel), List.mem_of_getElem? (i := 907) (by decide +kernel), List.mem_of_getElem? (i := 908) (by decide +kernel)⟩
def lw_privs_3 : List (MethodName × Nat) := [(⟨"FlockCountsModel", "countsOf", "(II)I"⟩, 18), (⟨"FlockCountsModel", "minutesGo", "(I)V"⟩, 18), (⟨"FlockCountsModel", "minute", "()V"⟩, 18), (⟨"FlockCountsModel", "isPassing", "(I)Z"⟩, 18), (⟨"FlockCountsModel", "passes", "(I)V"⟩, 18), (⟨"FlockCountsModel", "nobodyPasses", "()V"⟩, 18), (⟨"FlockCountsModel", "asleep", "()I"⟩, 18), (⟨"FlockCountsModel", "together", "(I)I"⟩, 18), (⟨"FlockCountsModel", "wearOf", "(I)I"⟩, 18), (⟨"FlockCountsModel", "passing", "()I"⟩, 18), (⟨"FlockCountsModel", "behind", "(II)I"⟩, 18), (⟨"FlockCountsModel", "laysAside", "()V"⟩, 18), (⟨"FlockCountsModel", "takesBack", "(I)I"⟩, 18), (⟨"FlockCountsModel", "firstAs", "(III)I"⟩, 18), (⟨"FlockCountsModel", "orNone", "(II)I"⟩, 18), (⟨"FlockCountsModel", "quietIn", "(I)I"⟩, 18)]
theorem lw_r3 : ∀ q ∈ lw_privs_3, lw_okq q := List.forall_mem_cons.mpr ⟨lw_p32, List.forall_mem_cons.mpr ⟨lw_p33, List.forall_mem_cons.mpr ⟨lw_p34, List.forall_mem_cons.mpr ⟨lw_p35, List.forall_mem_cons.mpr ⟨lw_p36, List.forall_mem_cons.mpr ⟨lw_p37, List.forall_mem_cons.mpr ⟨lw_p38, List.forall_mem_cons.mpr ⟨lw_p39, List.forall_mem_cons.mpr ⟨lw_p40, List.forall_mem_cons.mpr ⟨lw_p41, List.forall_mem_cons.mpr ⟨lw_p42, List.forall_mem_cons.mpr ⟨lw_p43, List.forall_mem_cons.mpr ⟨lw_p44, List.forall_mem_cons.mpr ⟨lw_p45, List.forall_mem_cons.mpr ⟨lw_p46, List.forall_mem_cons.mpr ⟨lw_p47, fun _ h => absurd h List.not_mem_nil⟩⟩⟩⟩⟩⟩⟩⟩⟩⟩⟩⟩⟩⟩⟩⟩
theorem lw_p48 : lw_okq (⟨"FlockCountsModel", "begins", "(I)V"⟩, 18) := ⟨⟨by decide +kernel, by decide +kernel⟩, List.mem_of_getElem? (i := 639) (by decide +kernel), List.mem_of_getElem? (i := 919) (by decide +kernel), List.mem_of_getElem? (i := 920) (by decide +kernel)⟩
theorem lw_p49 : lw_okq (⟨"FlockCountsModel", "tries", "(II)V"⟩, 18) := ⟨⟨by decide +kernel, by decide +kernel⟩, List.mem_of_getElem? (i := 639) (by decide +kernel), List.mem_of_getElem? (i := 923) (by decide +kernel), List.mem_of_getElem? (i := 924) (by decide +kernel)⟩
theorem lw_p50 : lw_okq (⟨"FlockCountsModel", "bestOrNone", "()I"⟩, 18) := ⟨⟨by decide +kernel, by decide +kernel⟩, List.mem_of_getElem? (i := 639) (by decide +kernel), List.mem_of_getElem? (i := 927) (by decide +kernel), List.mem_of_getElem? (i := 928) (by decide +kernel)⟩
theorem lw_p51 : lw_okq (⟨"FlockCountsModel", "swaps", "(II)V"⟩, 18) := ⟨⟨by decide +kernel, by decide +kernel⟩, List.mem_of_getElem? (i := 639) (by decide +kernel), List.mem_of_getElem? (i := 939) (by decide +kernel), List.mem_of_getElem? (i := 940) (by decide +kernel)⟩
theorem lw_p52 : lw_okq (⟨"FlockCountsModel", "saves", "()V"⟩, 18) := ⟨⟨by decide +kernel, by decide +kernel⟩, List.mem_of_getElem? (i := 639) (by decide +kernel), List.mem_of_getElem? (i := 978) (by decide +kernel), List.mem_of_getElem? (i := 979) (by decide +kernel)⟩
theorem lw_p53 : lw_okq (⟨"FlockCountsModel", "token", "()V"⟩, 18) := ⟨⟨by decide +kernel, by decide +kernel⟩, List.mem_of_getElem? (i := 639) (by decide +kernel), List.mem_of_getElem? (i := 982) (by decide +kernel), List.mem_of_getElem? (i := 983) (by decide +kernel)⟩
theorem lw_p54 : lw_okq (⟨"FlockCountsModel", "byteAt", "(I)I"⟩, 18) := ⟨⟨by decide +kernel, by decide +kernel⟩, List.mem_of_getElem? (i := 639) (by decide +kernel), List.mem_of_getElem? (i := 986) (by decide +kernel), List.mem_of_getElem? (i := 987) (by decide +kernel)⟩
theorem lw_p55 : lw_okq (⟨"FlockCountsModel", "item", "()V"⟩, 18) := ⟨⟨by decide +kernel, by decide +kernel⟩, List.mem_of_getElem? (i := 639) (by decide +kernel), List.mem_of_getElem? (i := 1000) (by decide +kernel), List.mem_of_getElem? (i := 1001) (by decide +kernel)⟩
theorem lw_p56 : lw_okq (⟨"FlockCountsModel", "kindHere", "()I"⟩, 18) := ⟨⟨by decide +kernel, by decide +kernel⟩, List.mem_of_getElem? (i := 639) (by decide +kernel), List.mem_of_getElem? (i := 1004) (by decide +kernel), List.mem_of_getElem? (i := 1005) (by decide +kernel)⟩
theorem lw_p57 : lw_okq (⟨"FlockCountsModel", "word", "()J"⟩, 18) := ⟨⟨by decide +kernel, by decide +kernel⟩, List.mem_of_getElem? (i := 639) (by decide +kernel), List.mem_of_getElem? (i := 1008) (by decide +kernel), List.mem_of_getElem? (i := 1009) (by decide +kernel)⟩
theorem lw_p58 : lw_okq (⟨"FlockCountsModel", "sheepItem", "(I)V"⟩, 18) := ⟨⟨by decide +kernel, by decide +kernel⟩, List.mem_of_getElem? (i := 639) (by decide +kernel), List.mem_of_getElem? (i := 1020) (by decide +kernel), List.mem_of_getElem? (i := 1021) (by decide +kernel)⟩
theorem lw_p59 : lw_okq (⟨"FlockCountsModel", "must", "(Z)V"⟩, 18) := ⟨⟨by decide +kernel, by decide +kernel⟩, List.mem_of_getElem? (i := 639) (by decide +kernel), List.mem_of_getElem? (i := 1024) (by decide +kernel), List.mem_of_getElem? (i := 1025) (by decide +kernel)⟩
theorem lw_p60 : lw_okq (⟨"FlockCountsModel", "partItem", "(JII)V"⟩, 18) := ⟨⟨by decide +kernel, by decide +kernel⟩, List.mem_of_getElem? (i := 639) (by decide +kernel), List.mem_of_getElem? (i := 1029) (by decide +kernel), List.mem_of_getElem? (i := 1030) (by decide +kernel)⟩
theorem lw_p61 : lw_okq (⟨"FlockCountsModel", "number", "(II)V"⟩, 18) := ⟨⟨by decide +kernel, by decide +kernel⟩, List.mem_of_getElem? (i := 639) (by decide +kernel), List.mem_of_getElem? (i := 1033) (by decide +kernel), List.mem_of_getElem? (i := 1034) (by decide +kernel)⟩
theorem lw_p62 : lw_okq (⟨"FlockCountsModel", "manItem", "()V"⟩, 18) := ⟨⟨by decide +kernel, by decide +kernel⟩, List.mem_of_getElem? (i := 639) (by decide +kernel), List.mem_of_getElem? (i := 1038) (by decide +kernel), List.mem_of_getElem? (i := 1039) (by decide +kernel)⟩
theorem lw_p63 : lw_okq (⟨"FlockCountsModel", "bitHere", "(JI)I"⟩, 18) := ⟨⟨by decide +kernel, by decide +kernel⟩, List.mem_of_getElem? (i := 639) (by decide +kernel), List.mem_of_getElem? (i := 1043) (by decide +kernel), List.mem_of_getElem? (i := 1044) (by decide +kernel)⟩
def lw_privs_4 : List (MethodName × Nat) := [(⟨"FlockCountsModel", "begins", "(I)V"⟩, 18), (⟨"FlockCountsModel", "tries", "(II)V"⟩, 18), (⟨"FlockCountsModel", "bestOrNone", "()I"⟩, 18), (⟨"FlockCountsModel", "swaps", "(II)V"⟩, 18), (⟨"FlockCountsModel", "saves", "()V"⟩, 18), (⟨"FlockCountsModel", "token", "()V"⟩, 18), (⟨"FlockCountsModel", "byteAt", "(I)I"⟩, 18), (⟨"FlockCountsModel", "item", "()V"⟩, 18), (⟨"FlockCountsModel", "kindHere", "()I"⟩, 18), (⟨"FlockCountsModel", "word", "()J"⟩, 18), (⟨"FlockCountsModel", "sheepItem", "(I)V"⟩, 18), (⟨"FlockCountsModel", "must", "(Z)V"⟩, 18), (⟨"FlockCountsModel", "partItem", "(JII)V"⟩, 18), (⟨"FlockCountsModel", "number", "(II)V"⟩, 18), (⟨"FlockCountsModel", "manItem", "()V"⟩, 18), (⟨"FlockCountsModel", "bitHere", "(JI)I"⟩, 18)]
theorem lw_r4 : ∀ q ∈ lw_privs_4, lw_okq q := List.forall_mem_cons.mpr ⟨lw_p48, List.forall_mem_cons.mpr ⟨lw_p49, List.forall_mem_cons.mpr ⟨lw_p50, List.forall_mem_cons.mpr ⟨lw_p51, List.forall_mem_cons.mpr ⟨lw_p52, List.forall_mem_cons.mpr ⟨lw_p53, List.forall_mem_cons.mpr ⟨lw_p54, List.forall_mem_cons.mpr ⟨lw_p55, List.forall_mem_cons.mpr ⟨lw_p56, List.forall_mem_cons.mpr ⟨lw_p57, List.forall_mem_cons.mpr ⟨lw_p58, List.forall_mem_cons.mpr ⟨lw_p59, List.forall_mem_cons.mpr ⟨lw_p60, List.forall_mem_cons.mpr ⟨lw_p61, List.forall_mem_cons.mpr ⟨lw_p62, List.forall_mem_cons.mpr ⟨lw_p63, fun _ h => absurd h List.not_mem_nil⟩⟩⟩⟩⟩⟩⟩⟩⟩⟩⟩⟩⟩⟩⟩⟩
theorem lw_p64 : lw_okq (⟨"FlockCountsModel", "putsBack", "()V"⟩, 18) := ⟨⟨by decide +kernel, by decide +kernel⟩, List.mem_of_getElem? (i := 639) (by decide +kernel), List.mem_of_getElem? (i := 1050) (by decide +kernel), List.mem_of_getElem? (i := 1051) (by decide +kernel)⟩
theorem lw_p65 : lw_okq (⟨"FlockCountsModel", "wrongSheet", "(I)I"⟩, 18) := ⟨⟨by decide +kernel, by decide +kernel⟩, List.mem_of_getElem? (i := 639) (by decide +kernel), List.mem_of_getElem? (i := 1067) (by decide +kernel), List.mem_of_getElem? (i := 1068) (by decide +kernel)⟩
theorem lw_p66 : lw_okq (⟨"FlockCountsModel", "wrongBook", "(II)I"⟩, 18) := ⟨⟨by decide +kernel, by decide +kernel⟩, List.mem_of_getElem? (i := 639) (by decide +kernel), List.mem_of_getElem? (i := 1087) (by decide +kernel), List.mem_of_getElem? (i := 1088) (by decide +kernel)⟩
theorem lw_p67 : lw_okq (⟨"FlockCountsModel", "isBook", "(II)Z"⟩, 18) := ⟨⟨by decide +kernel, by decide +kernel⟩, List.mem_of_getElem? (i := 639) (by decide +kernel), List.mem_of_getElem? (i := 1095) (by decide +kernel), List.mem_of_getElem? (i := 1096) (by decide +kernel)⟩
def lw_privs_5 : List (MethodName × Nat) := [(⟨"FlockCountsModel", "putsBack", "()V"⟩, 18), (⟨"FlockCountsModel", "wrongSheet", "(I)I"⟩, 18), (⟨"FlockCountsModel", "wrongBook", "(II)I"⟩, 18), (⟨"FlockCountsModel", "isBook", "(II)Z"⟩, 18)]
theorem lw_r5 : ∀ q ∈ lw_privs_5, lw_okq q := List.forall_mem_cons.mpr ⟨lw_p64, List.forall_mem_cons.mpr ⟨lw_p65, List.forall_mem_cons.mpr ⟨lw_p66, List.forall_mem_cons.mpr ⟨lw_p67, fun _ h => absurd h List.not_mem_nil⟩⟩⟩⟩
def lw_privs : List (MethodName × Nat) := lw_privs_1 ++ (lw_privs_2 ++ (lw_privs_3 ++ (lw_privs_4 ++ (lw_privs_5))))
def lw_tbl : List Cond := k2_sels lw_privs ++ tables_1
theorem lw_privs_ok : ∀ q ∈ lw_privs, lw_okq q := by
  show ∀ q ∈ lw_privs_1 ++ (lw_privs_2 ++ (lw_privs_3 ++ (lw_privs_4 ++ (lw_privs_5)))), lw_okq q
  exact List.forall_mem_append.mpr ⟨lw_r1, List.forall_mem_append.mpr ⟨lw_r2, List.forall_mem_append.mpr ⟨lw_r3, List.forall_mem_append.mpr ⟨lw_r4, lw_r5⟩⟩⟩⟩
-- ===== end of PART A; then your names; then what follows =====
end
section
/-! ===== BEGIN words of one list among another's, by their places ===== -/
theorem goodIn_r {big : List Cond} (ws : List Cond) (ps : List Nat) (hp : ws = ps.filterMap (fun i => big[i]?)) (h : ws.all goodWord = true) : GoodIn big ws := by
  intro w hw
  have h1 := List.all_eq_true.mp h w hw
  rw [hp] at hw
  obtain ⟨i, -, hi⟩ := List.mem_filterMap.mp hw
  have hm : w ∈ big := by first | exact List.mem_of_getElem? hi | exact List.getElem?_mem hi
  exact ⟨hm, good_of_word h1⟩
theorem goodIn_app {big a b : List Cond} (ha : GoodIn big a) (hb : GoodIn big b) : GoodIn big (a ++ b) := fun w h => (List.mem_append.mp h).elim (ha w) (hb w)
theorem goodIn_ca {big a b : List Cond} {c : Cond} (ha : GoodIn big (c :: a)) (hb : GoodIn big b) : GoodIn big (c :: (a ++ b)) := fun w h => (List.mem_cons.mp h).elim (fun e => ha w (List.mem_cons.mpr (Or.inl e))) (fun h => (List.mem_append.mp h).elim (fun h => ha w (List.mem_cons.mpr (Or.inr h))) (hb w))
theorem goodIn_sub {big ws : List Cond} (hm : ∀ w ∈ ws, w ∈ big) (h : ws.all goodWord = true) : GoodIn big ws := fun w hw => ⟨hm w hw, good_of_word (List.all_eq_true.mp h w hw)⟩
/-! ===== END ===== -/

/-! ===== BEGIN printed: names, fields, word lists, decode rows ===== -/
def RX0 : String := "FlockCounts$Fold"
def TX0 : u_T := fun k => match k with
  | 0 => ("FlockCounts$Fold", "minute", "I", false)
  | 1 => ("FlockCounts$Fold", "last", "I", false)
  | 2 => ("FlockCounts$Fold", "turn", "I", false)
  | 3 => ("FlockCounts$Fold", "manCount", "I", false)
  | 4 => ("FlockCounts$Fold", "guises", "[I", true)
  | 5 => ("FlockCounts$Fold", "wears", "[I", true)
  | 6 => ("FlockCounts$Fold", "sheepCount", "I", false)
  | 7 => ("FlockCounts$Fold", "kinds", "[I", true)
  | 8 => ("FlockCounts$Fold", "wants", "[I", true)
  | _ => ("FlockCounts$Fold", "seen", "[I", true)
def tyX0 : Nat → FieldType := fun k => match k with
  | 0 => .int
  | 1 => .int
  | 2 => .int
  | 3 => .int
  | 4 => .array .int
  | 5 => .array .int
  | 6 => .int
  | 7 => .array .int
  | 8 => .array .int
  | _ => .array .int
abbrev wsX00 : List Cond := u_ws RX0 TX0 10
theorem nmX0 : ∀ a, a < 10 → ∀ b, b < 10 → a ≠ b → (TX0 a).2.1 ≠ (TX0 b).2.1 := by decide +kernel
theorem tyX0_ok : ∀ k, k < 10 → parseFieldDescriptor (TX0 k).2.2.1 = some (tyX0 k) := by decide +kernel
abbrev cX0_init : ByteArray := prog_2_method_1_code
def yX0_init : MethodName := ⟨RX0, "<init>", "()V"⟩
abbrev cX0_becomes : ByteArray := prog_2_method_2_code
def yX0_becomes : MethodName := ⟨RX0, "becomes", "(LFlockCounts$Fold;)V"⟩
abbrev cX0_hasMan : ByteArray := prog_2_method_3_code
def yX0_hasMan : MethodName := ⟨RX0, "hasMan", "(I)Z"⟩
abbrev cX0_hasSheep : ByteArray := prog_2_method_4_code
def yX0_hasSheep : MethodName := ⟨RX0, "hasSheep", "(I)Z"⟩
abbrev cX0_hasRoomForMan : ByteArray := prog_2_method_5_code
def yX0_hasRoomForMan : MethodName := ⟨RX0, "hasRoomForMan", "()Z"⟩
abbrev cX0_hasRoomForSheep : ByteArray := prog_2_method_6_code
def yX0_hasRoomForSheep : MethodName := ⟨RX0, "hasRoomForSheep", "()Z"⟩
abbrev cX0_addMan : ByteArray := prog_2_method_7_code
def yX0_addMan : MethodName := ⟨RX0, "addMan", "(II)I"⟩
abbrev cX0_addSheep : ByteArray := prog_2_method_8_code
def yX0_addSheep : MethodName := ⟨RX0, "addSheep", "(II)I"⟩
abbrev cX0_dropLastMan : ByteArray := prog_2_method_9_code
def yX0_dropLastMan : MethodName := ⟨RX0, "dropLastMan", "()V"⟩
abbrev cX0_exchange : ByteArray := prog_2_method_10_code
def yX0_exchange : MethodName := ⟨RX0, "exchange", "(II)V"⟩
abbrev cX0_wearOut : ByteArray := prog_2_method_11_code
def yX0_wearOut : MethodName := ⟨RX0, "wearOut", "(I)V"⟩
abbrev cX0_isIn : ByteArray := prog_2_method_12_code
def yX0_isIn : MethodName := ⟨RX0, "isIn", "(II)Z"⟩
abbrev cX0_isAsleep : ByteArray := prog_2_method_13_code
def yX0_isAsleep : MethodName := ⟨RX0, "isAsleep", "(I)Z"⟩
abbrev cX0_canPass : ByteArray := prog_2_method_14_code
def yX0_canPass : MethodName := ⟨RX0, "canPass", "(I)Z"⟩
abbrev cX0_sleepers : ByteArray := prog_2_method_15_code
def yX0_sleepers : MethodName := ⟨RX0, "sleepers", "()I"⟩
abbrev cX0_passers : ByteArray := prog_2_method_16_code
def yX0_passers : MethodName := ⟨RX0, "passers", "()I"⟩
abbrev cX0_wantsOfAll : ByteArray := prog_2_method_17_code
def yX0_wantsOfAll : MethodName := ⟨RX0, "wantsOfAll", "()I"⟩
abbrev cX0_seenByAll : ByteArray := prog_2_method_18_code
def yX0_seenByAll : MethodName := ⟨RX0, "seenByAll", "()I"⟩
abbrev cX0_wearWithout : ByteArray := prog_2_method_19_code
def yX0_wearWithout : MethodName := ⟨RX0, "wearWithout", "(I)I"⟩
abbrev cX0_isQuiet : ByteArray := prog_2_method_20_code
def yX0_isQuiet : MethodName := ⟨RX0, "isQuiet", "()Z"⟩
abbrev cX0_play : ByteArray := prog_2_method_21_code
def yX0_play : MethodName := ⟨RX0, "play", "(I)V"⟩
abbrev cX0_playMinute : ByteArray := prog_2_method_22_code
def yX0_playMinute : MethodName := ⟨RX0, "playMinute", "()V"⟩
abbrev cX0_pass : ByteArray := prog_2_method_23_code
def yX0_pass : MethodName := ⟨RX0, "pass", "(I)V"⟩
abbrev cX0_stayAlone : ByteArray := prog_2_method_24_code
def yX0_stayAlone : MethodName := ⟨RX0, "stayAlone", "()V"⟩
abbrev cX0_playTillQuiet : ByteArray := prog_2_method_25_code
def yX0_playTillQuiet : MethodName := ⟨RX0, "playTillQuiet", "(I)I"⟩
abbrev cX0_playTillAsleep : ByteArray := prog_2_method_26_code
def yX0_playTillAsleep : MethodName := ⟨RX0, "playTillAsleep", "(II)I"⟩
abbrev cX0_playTillBare : ByteArray := prog_2_method_27_code
def yX0_playTillBare : MethodName := ⟨RX0, "playTillBare", "(II)I"⟩
def RX1 : String := "FlockCounts$Kinds"
def TX1 : u_T := fun k => match k with
  | _ => ("", "", "", false)
def tyX1 : Nat → FieldType := fun k => match k with
  | _ => .int
abbrev wsX10 : List Cond := u_ws RX1 TX1 0
theorem nmX1 : ∀ a, a < 0 → ∀ b, b < 0 → a ≠ b → (TX1 a).2.1 ≠ (TX1 b).2.1 := by decide +kernel
theorem tyX1_ok : ∀ k, k < 0 → parseFieldDescriptor (TX1 k).2.2.1 = some (tyX1 k) := by decide +kernel
abbrev cX1_isKind : ByteArray := prog_3_method_2_code
def yX1_isKind : MethodName := ⟨RX1, "isKind", "(I)Z"⟩
abbrev cX1_nameOf : ByteArray := prog_3_method_3_code
def yX1_nameOf : MethodName := ⟨RX1, "nameOf", "(I)Ljava/lang/String;"⟩
abbrev cX1_wakesBy : ByteArray := prog_3_method_4_code
def yX1_wakesBy : MethodName := ⟨RX1, "wakesBy", "(I)I"⟩
abbrev cX1_tiresBy : ByteArray := prog_3_method_5_code
def yX1_tiresBy : MethodName := ⟨RX1, "tiresBy", "(I)I"⟩
abbrev cX1_isOf : ByteArray := prog_3_method_6_code
def yX1_isOf : MethodName := ⟨RX1, "isOf", "(II)Z"⟩
abbrev cX1_unlike : ByteArray := prog_3_method_7_code
def yX1_unlike : MethodName := ⟨RX1, "unlike", "(II)I"⟩
abbrev cX1_takesOff : ByteArray := prog_3_method_8_code
def yX1_takesOff : MethodName := ⟨RX1, "takesOff", "(IIII)I"⟩
def RX2 : String := "FlockCounts$Sheet"
def TX2 : u_T := fun k => match k with
  | 0 => ("FlockCounts$Sheet", "bits", "I", false)
  | 1 => ("FlockCounts$Sheet", "length", "I", false)
  | _ => ("FlockCounts$Sheet", "numbers", "[J", true)
def tyX2 : Nat → FieldType := fun k => match k with
  | 0 => .int
  | 1 => .int
  | _ => .array .long
abbrev wsX20 : List Cond := u_ws RX2 TX2 3
theorem nmX2 : ∀ a, a < 3 → ∀ b, b < 3 → a ≠ b → (TX2 a).2.1 ≠ (TX2 b).2.1 := by decide +kernel
theorem tyX2_ok : ∀ k, k < 3 → parseFieldDescriptor (TX2 k).2.2.1 = some (tyX2 k) := by decide +kernel
abbrev cX2_init : ByteArray := prog_4_method_1_code
def yX2_init : MethodName := ⟨RX2, "<init>", "()V"⟩
abbrev cX2_isWidth : ByteArray := prog_4_method_2_code
def yX2_isWidth : MethodName := ⟨RX2, "isWidth", "(I)Z"⟩
abbrev cX2_isMissing : ByteArray := prog_4_method_3_code
def yX2_isMissing : MethodName := ⟨RX2, "isMissing", "()Z"⟩
abbrev cX2_ruleAnew : ByteArray := prog_4_method_4_code
def yX2_ruleAnew : MethodName := ⟨RX2, "ruleAnew", "(II)V"⟩
abbrev cX2_put : ByteArray := prog_4_method_5_code
def yX2_put : MethodName := ⟨RX2, "put", "(IJ)V"⟩
abbrev cX2_hasRun : ByteArray := prog_4_method_6_code
def yX2_hasRun : MethodName := ⟨RX2, "hasRun", "(II)Z"⟩
def RX3 : String := "FlockCounts$Tape"
def TX3 : u_T := fun k => match k with
  | 0 => ("FlockCounts$Tape", "bytes", "[I", true)
  | 1 => ("FlockCounts$Tape", "length", "I", false)
  | 2 => ("FlockCounts$Tape", "sort", "I", false)
  | 3 => ("FlockCounts$Tape", "start", "I", false)
  | _ => ("FlockCounts$Tape", "behind", "I", false)
def tyX3 : Nat → FieldType := fun k => match k with
  | 0 => .array .int
  | 1 => .int
  | 2 => .int
  | 3 => .int
  | _ => .int
abbrev wsX30 : List Cond := u_ws RX3 TX3 5
theorem nmX3 : ∀ a, a < 5 → ∀ b, b < 5 → a ≠ b → (TX3 a).2.1 ≠ (TX3 b).2.1 := by decide +kernel
theorem tyX3_ok : ∀ k, k < 5 → parseFieldDescriptor (TX3 k).2.2.1 = some (tyX3 k) := by decide +kernel
abbrev cX3_init : ByteArray := prog_5_method_1_code
def yX3_init : MethodName := ⟨RX3, "<init>", "()V"⟩
abbrev cX3_hasRoomFor : ByteArray := prog_5_method_2_code
def yX3_hasRoomFor : MethodName := ⟨RX3, "hasRoomFor", "(I)Z"⟩
abbrev cX3_append : ByteArray := prog_5_method_3_code
def yX3_append : MethodName := ⟨RX3, "append", "(I)V"⟩
abbrev cX3_tellInto : ByteArray := prog_5_method_4_code
def yX3_tellInto : MethodName := ⟨RX3, "tellInto", "(LFlockCounts$Fold;)I"⟩
abbrev cX3_takeItem : ByteArray := prog_5_method_5_code
def yX3_takeItem : MethodName := ⟨RX3, "takeItem", "(LFlockCounts$Fold;)Z"⟩
abbrev cX3_takeSheep : ByteArray := prog_5_method_6_code
def yX3_takeSheep : MethodName := ⟨RX3, "takeSheep", "(LFlockCounts$Fold;I)Z"⟩
abbrev cX3_takeMan : ByteArray := prog_5_method_7_code
def yX3_takeMan : MethodName := ⟨RX3, "takeMan", "(LFlockCounts$Fold;)Z"⟩
abbrev cX3_takeNumberAfter : ByteArray := prog_5_method_8_code
def yX3_takeNumberAfter : MethodName := ⟨RX3, "takeNumberAfter", "(Ljava/lang/String;II)I"⟩
abbrev cX3_takeWord : ByteArray := prog_5_method_9_code
def yX3_takeWord : MethodName := ⟨RX3, "takeWord", "(Ljava/lang/String;)Z"⟩
abbrev cX3_kindNamed : ByteArray := prog_5_method_10_code
def yX3_kindNamed : MethodName := ⟨RX3, "kindNamed", "()I"⟩
abbrev cX3_isWord : ByteArray := prog_5_method_11_code
def yX3_isWord : MethodName := ⟨RX3, "isWord", "(Ljava/lang/String;)Z"⟩
abbrev cX3_nextToken : ByteArray := prog_5_method_12_code
def yX3_nextToken : MethodName := ⟨RX3, "nextToken", "()V"⟩
abbrev cX3_sortAt : ByteArray := prog_5_method_13_code
def yX3_sortAt : MethodName := ⟨RX3, "sortAt", "(I)I"⟩
abbrev cX3_numberHere : ByteArray := prog_5_method_14_code
def yX3_numberHere : MethodName := ⟨RX3, "numberHere", "()I"⟩
def RX4 : String := "FlockCounts"
def TX4 : u_T := fun k => match k with
  | 0 => ("FlockCounts", "fold", "LFlockCounts$Fold;", true)
  | 1 => ("FlockCounts", "trial", "LFlockCounts$Fold;", true)
  | 2 => ("FlockCounts", "kept", "LFlockCounts$Fold;", true)
  | 3 => ("FlockCounts", "isKept", "Z", false)
  | 4 => ("FlockCounts", "tape", "LFlockCounts$Tape;", true)
  | 5 => ("FlockCounts", "sheets", "[LFlockCounts$Sheet;", true)
  | _ => ("FlockCounts", "told", "[I", true)
def tyX4 : Nat → FieldType := fun k => match k with
  | 0 => .object "FlockCounts$Fold"
  | 1 => .object "FlockCounts$Fold"
  | 2 => .object "FlockCounts$Fold"
  | 3 => .boolean
  | 4 => .object "FlockCounts$Tape"
  | 5 => .array (.object "FlockCounts$Sheet")
  | _ => .array .int
abbrev wsX40 : List Cond := u_ws RX4 TX4 7
theorem nmX4 : ∀ a, a < 7 → ∀ b, b < 7 → a ≠ b → (TX4 a).2.1 ≠ (TX4 b).2.1 := by decide +kernel
theorem tyX4_ok : ∀ k, k < 7 → parseFieldDescriptor (TX4 k).2.2.1 = some (tyX4 k) := by decide +kernel
abbrev cX4_init : ByteArray := prog_1_method_1_code
def yX4_init : MethodName := ⟨RX4, "<init>", "()V"⟩
abbrev cX4_man : ByteArray := prog_1_method_2_code
def yX4_man : MethodName := ⟨RX4, "man", "(I)I"⟩
abbrev cX4_manOf : ByteArray := prog_1_method_3_code
def yX4_manOf : MethodName := ⟨RX4, "manOf", "(II)I"⟩
abbrev cX4_dress : ByteArray := prog_1_method_4_code
def yX4_dress : MethodName := ⟨RX4, "dress", "(III)I"⟩
abbrev cX4_first : ByteArray := prog_1_method_5_code
def yX4_first : MethodName := ⟨RX4, "first", "(I)I"⟩
abbrev cX4_goesHome : ByteArray := prog_1_method_6_code
def yX4_goesHome : MethodName := ⟨RX4, "goesHome", "()I"⟩
abbrev cX4_sheep : ByteArray := prog_1_method_7_code
def yX4_sheep : MethodName := ⟨RX4, "sheep", "(I)I"⟩
abbrev cX4_of : ByteArray := prog_1_method_8_code
def yX4_of : MethodName := ⟨RX4, "of", "(II)I"⟩
abbrev cX4_set : ByteArray := prog_1_method_9_code
def yX4_set : MethodName := ⟨RX4, "set", "(III)I"⟩
abbrev cX4_turn : ByteArray := prog_1_method_10_code
def yX4_turn : MethodName := ⟨RX4, "turn", "(II)I"⟩
abbrev cX4_as : ByteArray := prog_1_method_11_code
def yX4_as : MethodName := ⟨RX4, "as", "(II)I"⟩
abbrev cX4_counts : ByteArray := prog_1_method_12_code
def yX4_counts : MethodName := ⟨RX4, "counts", "(II)I"⟩
abbrev cX4_minutes : ByteArray := prog_1_method_13_code
def yX4_minutes : MethodName := ⟨RX4, "minutes", "(I)I"⟩
abbrev cX4_now : ByteArray := prog_1_method_14_code
def yX4_now : MethodName := ⟨RX4, "now", "(I)I"⟩
abbrev cX4_on : ByteArray := prog_1_method_15_code
def yX4_on : MethodName := ⟨RX4, "on", "(III)I"⟩
abbrev cX4_worn : ByteArray := prog_1_method_16_code
def yX4_worn : MethodName := ⟨RX4, "worn", "(II)I"⟩
abbrev cX4_sleeps : ByteArray := prog_1_method_17_code
def yX4_sleeps : MethodName := ⟨RX4, "sleeps", "(I)I"⟩
abbrev cX4_quiet : ByteArray := prog_1_method_18_code
def yX4_quiet : MethodName := ⟨RX4, "quiet", "()I"⟩
abbrev cX4_bare : ByteArray := prog_1_method_19_code
def yX4_bare : MethodName := ⟨RX4, "bare", "(I)I"⟩
abbrev cX4_guise : ByteArray := prog_1_method_20_code
def yX4_guise : MethodName := ⟨RX4, "guise", "(I)I"⟩
abbrev cX4_guises : ByteArray := prog_1_method_21_code
def yX4_guises : MethodName := ⟨RX4, "guises", "(II)I"⟩
abbrev cX4_swap : ByteArray := prog_1_method_22_code
def yX4_swap : MethodName := ⟨RX4, "swap", "()I"⟩
abbrev cX4_spare : ByteArray := prog_1_method_23_code
def yX4_spare : MethodName := ⟨RX4, "spare", "(II)I"⟩
abbrev cX4_kind : ByteArray := prog_1_method_24_code
def yX4_kind : MethodName := ⟨RX4, "kind", "(I)I"⟩
abbrev cX4_most : ByteArray := prog_1_method_25_code
def yX4_most : MethodName := ⟨RX4, "most", "(II)I"⟩
abbrev cX4_begin : ByteArray := prog_1_method_26_code
def yX4_begin : MethodName := ⟨RX4, "begin", "(I)I"⟩
abbrev cX4_last : ByteArray := prog_1_method_27_code
def yX4_last : MethodName := ⟨RX4, "last", "()I"⟩
abbrev cX4_feed : ByteArray := prog_1_method_28_code
def yX4_feed : MethodName := ⟨RX4, "feed", "(II)I"⟩
abbrev cX4_wipe : ByteArray := prog_1_method_29_code
def yX4_wipe : MethodName := ⟨RX4, "wipe", "()I"⟩
abbrev cX4_fell : ByteArray := prog_1_method_30_code
def yX4_fell : MethodName := ⟨RX4, "fell", "()I"⟩
abbrev cX4_sheet : ByteArray := prog_1_method_31_code
def yX4_sheet : MethodName := ⟨RX4, "sheet", "(III)I"⟩
abbrev cX4_write : ByteArray := prog_1_method_32_code
def yX4_write : MethodName := ⟨RX4, "write", "(IIJ)J"⟩
abbrev cX4_copy : ByteArray := prog_1_method_33_code
def yX4_copy : MethodName := ⟨RX4, "copy", "(IIIII)I"⟩
abbrev cX4_lays : ByteArray := prog_1_method_34_code
def yX4_lays : MethodName := ⟨RX4, "lays", "(I)I"⟩
abbrev cX4_book : ByteArray := prog_1_method_35_code
def yX4_book : MethodName := ⟨RX4, "book", "(II)I"⟩
abbrev cX4_read : ByteArray := prog_1_method_36_code
def yX4_read : MethodName := ⟨RX4, "read", "(II)I"⟩
abbrev cX4_image : ByteArray := prog_1_method_37_code
def yX4_image : MethodName := ⟨RX4, "image", "()I"⟩
abbrev cX4_undo : ByteArray := prog_1_method_38_code
def yX4_undo : MethodName := ⟨RX4, "undo", "()I"⟩
abbrev cX4_tear : ByteArray := prog_1_method_39_code
def yX4_tear : MethodName := ⟨RX4, "tear", "()I"⟩
abbrev cX4_count : ByteArray := prog_1_method_40_code
def yX4_count : MethodName := ⟨RX4, "count", "(I)I"⟩
abbrev cX4_status : ByteArray := prog_1_method_41_code
def yX4_status : MethodName := ⟨RX4, "status", "(I)I"⟩
abbrev cX4_isWithin : ByteArray := prog_1_method_42_code
def yX4_isWithin : MethodName := ⟨RX4, "isWithin", "(III)Z"⟩
abbrev cX4_isGuise : ByteArray := prog_1_method_43_code
def yX4_isGuise : MethodName := ⟨RX4, "isGuise", "(I)Z"⟩
abbrev cX4_isSheet : ByteArray := prog_1_method_44_code
def yX4_isSheet : MethodName := ⟨RX4, "isSheet", "(I)Z"⟩
abbrev cX4_missingSheet : ByteArray := prog_1_method_45_code
def yX4_missingSheet : MethodName := ⟨RX4, "missingSheet", "(I)I"⟩
abbrev cX4_tell : ByteArray := prog_1_method_46_code
def yX4_tell : MethodName := ⟨RX4, "tell", "(I)I"⟩
abbrev cX4_answer : ByteArray := prog_1_method_47_code
def yX4_answer : MethodName := ⟨RX4, "answer", "(I)I"⟩
abbrev cX4_withinWait : ByteArray := prog_1_method_48_code
def yX4_withinWait : MethodName := ⟨RX4, "withinWait", "(I)I"⟩
abbrev cX4_startTrial : ByteArray := prog_1_method_49_code
def yX4_startTrial : MethodName := ⟨RX4, "startTrial", "()V"⟩
abbrev cX4_wearWhenOut : ByteArray := prog_1_method_50_code
def yX4_wearWhenOut : MethodName := ⟨RX4, "wearWhenOut", "(II)I"⟩
abbrev cX4_trialSees : ByteArray := prog_1_method_51_code
def yX4_trialSees : MethodName := ⟨RX4, "trialSees", "(LFlockCounts$Sheet;I)Z"⟩
def RX5 : String := "FlockCountsModel"
def TX5 : u_T := fun k => match k with
  | 0 => ("FlockCountsModel", "s", "[I", true)
  | 1 => ("FlockCountsModel", "keptS", "[I", true)
  | 2 => ("FlockCountsModel", "other", "[I", true)
  | 3 => ("FlockCountsModel", "aside", "[I", true)
  | 4 => ("FlockCountsModel", "statuses", "[I", true)
  | 5 => ("FlockCountsModel", "isKept", "Z", false)
  | 6 => ("FlockCountsModel", "best", "I", false)
  | 7 => ("FlockCountsModel", "soonest", "I", false)
  | 8 => ("FlockCountsModel", "tape", "[I", true)
  | 9 => ("FlockCountsModel", "taped", "I", false)
  | 10 => ("FlockCountsModel", "from", "I", false)
  | 11 => ("FlockCountsModel", "to", "I", false)
  | 12 => ("FlockCountsModel", "value", "I", false)
  | 13 => ("FlockCountsModel", "isWrong", "Z", false)
  | 14 => ("FlockCountsModel", "bitsOf", "[I", true)
  | 15 => ("FlockCountsModel", "sizeOf", "[I", true)
  | 16 => ("FlockCountsModel", "numbers", "[J", true)
  | _ => ("FlockCountsModel", "moved", "[J", true)
def tyX5 : Nat → FieldType := fun k => match k with
  | 0 => .array .int
  | 1 => .array .int
  | 2 => .array .int
  | 3 => .array .int
  | 4 => .array .int
  | 5 => .boolean
  | 6 => .int
  | 7 => .int
  | 8 => .array .int
  | 9 => .int
  | 10 => .int
  | 11 => .int
  | 12 => .int
  | 13 => .boolean
  | 14 => .array .int
  | 15 => .array .int
  | 16 => .array .long
  | _ => .array .long
abbrev wsX50 : List Cond := u_ws RX5 TX5 18
theorem nmX5 : ∀ a, a < 18 → ∀ b, b < 18 → a ≠ b → (TX5 a).2.1 ≠ (TX5 b).2.1 := by decide +kernel
theorem tyX5_ok : ∀ k, k < 18 → parseFieldDescriptor (TX5 k).2.2.1 = some (tyX5 k) := by decide +kernel
abbrev cX5_init : ByteArray := prog_7_method_1_code
def yX5_init : MethodName := ⟨RX5, "<init>", "()V"⟩
abbrev cX5_in : ByteArray := prog_7_method_2_code
def yX5_in : MethodName := ⟨RX5, "in", "(JJJ)Z"⟩
abbrev cX5_finds : ByteArray := prog_7_method_3_code
def yX5_finds : MethodName := ⟨RX5, "finds", "(I)I"⟩
abbrev cX5_saves : ByteArray := prog_7_method_4_code
def yX5_saves : MethodName := ⟨RX5, "saves", "()V"⟩
abbrev cX5_putsBack : ByteArray := prog_7_method_5_code
def yX5_putsBack : MethodName := ⟨RX5, "putsBack", "()V"⟩
abbrev cX5_laysAside : ByteArray := prog_7_method_6_code
def yX5_laysAside : MethodName := ⟨RX5, "laysAside", "()V"⟩
abbrev cX5_takesBack : ByteArray := prog_7_method_7_code
def yX5_takesBack : MethodName := ⟨RX5, "takesBack", "(I)I"⟩
abbrev cX5_becomes : ByteArray := prog_7_method_8_code
def yX5_becomes : MethodName := ⟨RX5, "becomes", "(II)I"⟩
abbrev cX5_isMan : ByteArray := prog_7_method_9_code
def yX5_isMan : MethodName := ⟨RX5, "isMan", "(I)Z"⟩
abbrev cX5_isSheep : ByteArray := prog_7_method_10_code
def yX5_isSheep : MethodName := ⟨RX5, "isSheep", "(I)Z"⟩
abbrev cX5_isKind : ByteArray := prog_7_method_11_code
def yX5_isKind : MethodName := ⟨RX5, "isKind", "(I)Z"⟩
abbrev cX5_isGuise : ByteArray := prog_7_method_12_code
def yX5_isGuise : MethodName := ⟨RX5, "isGuise", "(I)Z"⟩
abbrev cX5_placeOf : ByteArray := prog_7_method_13_code
def yX5_placeOf : MethodName := ⟨RX5, "placeOf", "(II)I"⟩
abbrev cX5_spotOf : ByteArray := prog_7_method_14_code
def yX5_spotOf : MethodName := ⟨RX5, "spotOf", "(II)I"⟩
abbrev cX5_his : ByteArray := prog_7_method_15_code
def yX5_his : MethodName := ⟨RX5, "his", "(II)I"⟩
abbrev cX5_its : ByteArray := prog_7_method_16_code
def yX5_its : MethodName := ⟨RX5, "its", "(II)I"⟩
abbrev cX5_ones : ByteArray := prog_7_method_17_code
def yX5_ones : MethodName := ⟨RX5, "ones", "(I)I"⟩
abbrev cX5_heldTo : ByteArray := prog_7_method_18_code
def yX5_heldTo : MethodName := ⟨RX5, "heldTo", "(II)I"⟩
abbrev cX5_addsMan : ByteArray := prog_7_method_19_code
def yX5_addsMan : MethodName := ⟨RX5, "addsMan", "(I)I"⟩
abbrev cX5_man : ByteArray := prog_7_method_20_code
def yX5_man : MethodName := ⟨RX5, "man", "(I)I"⟩
abbrev cX5_manOf : ByteArray := prog_7_method_21_code
def yX5_manOf : MethodName := ⟨RX5, "manOf", "(II)I"⟩
abbrev cX5_dress : ByteArray := prog_7_method_22_code
def yX5_dress : MethodName := ⟨RX5, "dress", "(III)I"⟩
abbrev cX5_first : ByteArray := prog_7_method_23_code
def yX5_first : MethodName := ⟨RX5, "first", "(I)I"⟩
abbrev cX5_goesHome : ByteArray := prog_7_method_24_code
def yX5_goesHome : MethodName := ⟨RX5, "goesHome", "()I"⟩
abbrev cX5_adds : ByteArray := prog_7_method_25_code
def yX5_adds : MethodName := ⟨RX5, "adds", "(I)I"⟩
abbrev cX5_sheep : ByteArray := prog_7_method_26_code
def yX5_sheep : MethodName := ⟨RX5, "sheep", "(I)I"⟩
abbrev cX5_isAsleep : ByteArray := prog_7_method_27_code
def yX5_isAsleep : MethodName := ⟨RX5, "isAsleep", "(I)Z"⟩
abbrev cX5_wakesOf : ByteArray := prog_7_method_28_code
def yX5_wakesOf : MethodName := ⟨RX5, "wakesOf", "(I)I"⟩
abbrev cX5_tiresOf : ByteArray := prog_7_method_29_code
def yX5_tiresOf : MethodName := ⟨RX5, "tiresOf", "(I)I"⟩
abbrev cX5_countsOf : ByteArray := prog_7_method_30_code
def yX5_countsOf : MethodName := ⟨RX5, "countsOf", "(II)I"⟩
abbrev cX5_of : ByteArray := prog_7_method_31_code
def yX5_of : MethodName := ⟨RX5, "of", "(II)I"⟩
abbrev cX5_set : ByteArray := prog_7_method_32_code
def yX5_set : MethodName := ⟨RX5, "set", "(III)I"⟩
abbrev cX5_turn : ByteArray := prog_7_method_33_code
def yX5_turn : MethodName := ⟨RX5, "turn", "(II)I"⟩
abbrev cX5_isUnder : ByteArray := prog_7_method_34_code
def yX5_isUnder : MethodName := ⟨RX5, "isUnder", "(II)Z"⟩
abbrev cX5_as : ByteArray := prog_7_method_35_code
def yX5_as : MethodName := ⟨RX5, "as", "(II)I"⟩
abbrev cX5_counts : ByteArray := prog_7_method_36_code
def yX5_counts : MethodName := ⟨RX5, "counts", "(II)I"⟩
abbrev cX5_isPassing : ByteArray := prog_7_method_37_code
def yX5_isPassing : MethodName := ⟨RX5, "isPassing", "(I)Z"⟩
abbrev cX5_passes : ByteArray := prog_7_method_38_code
def yX5_passes : MethodName := ⟨RX5, "passes", "(I)V"⟩
abbrev cX5_nobodyPasses : ByteArray := prog_7_method_39_code
def yX5_nobodyPasses : MethodName := ⟨RX5, "nobodyPasses", "()V"⟩
abbrev cX5_minute : ByteArray := prog_7_method_40_code
def yX5_minute : MethodName := ⟨RX5, "minute", "()V"⟩
abbrev cX5_minutesGo : ByteArray := prog_7_method_41_code
def yX5_minutesGo : MethodName := ⟨RX5, "minutesGo", "(I)V"⟩
abbrev cX5_asleep : ByteArray := prog_7_method_42_code
def yX5_asleep : MethodName := ⟨RX5, "asleep", "()I"⟩
abbrev cX5_minutes : ByteArray := prog_7_method_43_code
def yX5_minutes : MethodName := ⟨RX5, "minutes", "(I)I"⟩
abbrev cX5_together : ByteArray := prog_7_method_44_code
def yX5_together : MethodName := ⟨RX5, "together", "(I)I"⟩
abbrev cX5_wearOf : ByteArray := prog_7_method_45_code
def yX5_wearOf : MethodName := ⟨RX5, "wearOf", "(I)I"⟩
abbrev cX5_passing : ByteArray := prog_7_method_46_code
def yX5_passing : MethodName := ⟨RX5, "passing", "()I"⟩
abbrev cX5_now : ByteArray := prog_7_method_47_code
def yX5_now : MethodName := ⟨RX5, "now", "(I)I"⟩
abbrev cX5_behind : ByteArray := prog_7_method_48_code
def yX5_behind : MethodName := ⟨RX5, "behind", "(II)I"⟩
abbrev cX5_on : ByteArray := prog_7_method_49_code
def yX5_on : MethodName := ⟨RX5, "on", "(III)I"⟩
abbrev cX5_worn : ByteArray := prog_7_method_50_code
def yX5_worn : MethodName := ⟨RX5, "worn", "(II)I"⟩
abbrev cX5_firstAs : ByteArray := prog_7_method_51_code
def yX5_firstAs : MethodName := ⟨RX5, "firstAs", "(III)I"⟩
abbrev cX5_quietIn : ByteArray := prog_7_method_52_code
def yX5_quietIn : MethodName := ⟨RX5, "quietIn", "(I)I"⟩
abbrev cX5_orNone : ByteArray := prog_7_method_53_code
def yX5_orNone : MethodName := ⟨RX5, "orNone", "(II)I"⟩
abbrev cX5_sleeps : ByteArray := prog_7_method_54_code
def yX5_sleeps : MethodName := ⟨RX5, "sleeps", "(I)I"⟩
abbrev cX5_quiet : ByteArray := prog_7_method_55_code
def yX5_quiet : MethodName := ⟨RX5, "quiet", "()I"⟩
abbrev cX5_bare : ByteArray := prog_7_method_56_code
def yX5_bare : MethodName := ⟨RX5, "bare", "(I)I"⟩
abbrev cX5_begins : ByteArray := prog_7_method_57_code
def yX5_begins : MethodName := ⟨RX5, "begins", "(I)V"⟩
abbrev cX5_tries : ByteArray := prog_7_method_58_code
def yX5_tries : MethodName := ⟨RX5, "tries", "(II)V"⟩
abbrev cX5_bestOrNone : ByteArray := prog_7_method_59_code
def yX5_bestOrNone : MethodName := ⟨RX5, "bestOrNone", "()I"⟩
abbrev cX5_guise : ByteArray := prog_7_method_60_code
def yX5_guise : MethodName := ⟨RX5, "guise", "(I)I"⟩
abbrev cX5_guises : ByteArray := prog_7_method_61_code
def yX5_guises : MethodName := ⟨RX5, "guises", "(II)I"⟩
abbrev cX5_swaps : ByteArray := prog_7_method_62_code
def yX5_swaps : MethodName := ⟨RX5, "swaps", "(II)V"⟩
abbrev cX5_swap : ByteArray := prog_7_method_63_code
def yX5_swap : MethodName := ⟨RX5, "swap", "()I"⟩
abbrev cX5_spare : ByteArray := prog_7_method_64_code
def yX5_spare : MethodName := ⟨RX5, "spare", "(II)I"⟩
abbrev cX5_kind : ByteArray := prog_7_method_65_code
def yX5_kind : MethodName := ⟨RX5, "kind", "(I)I"⟩
abbrev cX5_most : ByteArray := prog_7_method_66_code
def yX5_most : MethodName := ⟨RX5, "most", "(II)I"⟩
abbrev cX5_begin : ByteArray := prog_7_method_67_code
def yX5_begin : MethodName := ⟨RX5, "begin", "(I)I"⟩
abbrev cX5_last : ByteArray := prog_7_method_68_code
def yX5_last : MethodName := ⟨RX5, "last", "()I"⟩
abbrev cX5_feed : ByteArray := prog_7_method_69_code
def yX5_feed : MethodName := ⟨RX5, "feed", "(II)I"⟩
abbrev cX5_wipe : ByteArray := prog_7_method_70_code
def yX5_wipe : MethodName := ⟨RX5, "wipe", "()I"⟩
abbrev cX5_byteAt : ByteArray := prog_7_method_71_code
def yX5_byteAt : MethodName := ⟨RX5, "byteAt", "(I)I"⟩
abbrev cX5_isLetter : ByteArray := prog_7_method_72_code
def yX5_isLetter : MethodName := ⟨RX5, "isLetter", "(I)Z"⟩
abbrev cX5_isDigit : ByteArray := prog_7_method_73_code
def yX5_isDigit : MethodName := ⟨RX5, "isDigit", "(I)Z"⟩
abbrev cX5_token : ByteArray := prog_7_method_74_code
def yX5_token : MethodName := ⟨RX5, "token", "()V"⟩
abbrev cX5_must : ByteArray := prog_7_method_75_code
def yX5_must : MethodName := ⟨RX5, "must", "(Z)V"⟩
abbrev cX5_word : ByteArray := prog_7_method_76_code
def yX5_word : MethodName := ⟨RX5, "word", "()J"⟩
abbrev cX5_number : ByteArray := prog_7_method_77_code
def yX5_number : MethodName := ⟨RX5, "number", "(II)V"⟩
abbrev cX5_kindHere : ByteArray := prog_7_method_78_code
def yX5_kindHere : MethodName := ⟨RX5, "kindHere", "()I"⟩
abbrev cX5_partItem : ByteArray := prog_7_method_79_code
def yX5_partItem : MethodName := ⟨RX5, "partItem", "(JII)V"⟩
abbrev cX5_sheepItem : ByteArray := prog_7_method_80_code
def yX5_sheepItem : MethodName := ⟨RX5, "sheepItem", "(I)V"⟩
abbrev cX5_bitHere : ByteArray := prog_7_method_81_code
def yX5_bitHere : MethodName := ⟨RX5, "bitHere", "(JI)I"⟩
abbrev cX5_manItem : ByteArray := prog_7_method_82_code
def yX5_manItem : MethodName := ⟨RX5, "manItem", "()V"⟩
abbrev cX5_item : ByteArray := prog_7_method_83_code
def yX5_item : MethodName := ⟨RX5, "item", "()V"⟩
abbrev cX5_fell : ByteArray := prog_7_method_84_code
def yX5_fell : MethodName := ⟨RX5, "fell", "()I"⟩
abbrev cX5_isOne : ByteArray := prog_7_method_85_code
def yX5_isOne : MethodName := ⟨RX5, "isOne", "(I)Z"⟩
abbrev cX5_sheet : ByteArray := prog_7_method_86_code
def yX5_sheet : MethodName := ⟨RX5, "sheet", "(III)I"⟩
abbrev cX5_narrowed : ByteArray := prog_7_method_87_code
def yX5_narrowed : MethodName := ⟨RX5, "narrowed", "(IJ)J"⟩
abbrev cX5_wrongSheet : ByteArray := prog_7_method_88_code
def yX5_wrongSheet : MethodName := ⟨RX5, "wrongSheet", "(I)I"⟩
abbrev cX5_write : ByteArray := prog_7_method_89_code
def yX5_write : MethodName := ⟨RX5, "write", "(IIJ)J"⟩
abbrev cX5_copy : ByteArray := prog_7_method_90_code
def yX5_copy : MethodName := ⟨RX5, "copy", "(IIIII)I"⟩
abbrev cX5_lays : ByteArray := prog_7_method_91_code
def yX5_lays : MethodName := ⟨RX5, "lays", "(I)I"⟩
abbrev cX5_wrongBook : ByteArray := prog_7_method_92_code
def yX5_wrongBook : MethodName := ⟨RX5, "wrongBook", "(II)I"⟩
abbrev cX5_book : ByteArray := prog_7_method_93_code
def yX5_book : MethodName := ⟨RX5, "book", "(II)I"⟩
abbrev cX5_isBook : ByteArray := prog_7_method_94_code
def yX5_isBook : MethodName := ⟨RX5, "isBook", "(II)Z"⟩
abbrev cX5_read : ByteArray := prog_7_method_95_code
def yX5_read : MethodName := ⟨RX5, "read", "(II)I"⟩
abbrev cX5_image : ByteArray := prog_7_method_96_code
def yX5_image : MethodName := ⟨RX5, "image", "()I"⟩
abbrev cX5_undo : ByteArray := prog_7_method_97_code
def yX5_undo : MethodName := ⟨RX5, "undo", "()I"⟩
abbrev cX5_tear : ByteArray := prog_7_method_98_code
def yX5_tear : MethodName := ⟨RX5, "tear", "()I"⟩
abbrev cX5_count : ByteArray := prog_7_method_99_code
def yX5_count : MethodName := ⟨RX5, "count", "(I)I"⟩
abbrev cX5_status : ByteArray := prog_7_method_100_code
def yX5_status : MethodName := ⟨RX5, "status", "(I)I"⟩
def RJ6 : String := "java/lang/Integer"
def TJ6 : u_T := fun k => match k with
  | _ => ("", "", "", false)
def tyJ6 : Nat → FieldType := fun k => match k with
  | _ => .int
abbrev wsJ60 : List Cond := u_ws RJ6 TJ6 0
theorem nmJ6 : ∀ a, a < 0 → ∀ b, b < 0 → a ≠ b → (TJ6 a).2.1 ≠ (TJ6 b).2.1 := by decide +kernel
theorem tyJ6_ok : ∀ k, k < 0 → parseFieldDescriptor (TJ6 k).2.2.1 = some (tyJ6 k) := by decide +kernel
abbrev cJ6_bitCount_0f7a4 : ByteArray := prog_8_method_49_code
def yJ6_bitCount_0f7a4 : MethodName := ⟨RJ6, "bitCount", "(I)I"⟩
def RJ9 : String := "java/lang/Math"
def TJ9 : u_T := fun k => match k with
  | _ => ("", "", "", false)
def tyJ9 : Nat → FieldType := fun k => match k with
  | _ => .int
abbrev wsJ90 : List Cond := u_ws RJ9 TJ9 0
theorem nmJ9 : ∀ a, a < 0 → ∀ b, b < 0 → a ≠ b → (TJ9 a).2.1 ≠ (TJ9 b).2.1 := by decide +kernel
theorem tyJ9_ok : ∀ k, k < 0 → parseFieldDescriptor (TJ9 k).2.2.1 = some (tyJ9 k) := by decide +kernel
abbrev cJ9_max_7cf53 : ByteArray := prog_9_method_65_code
def yJ9_max_7cf53 : MethodName := ⟨RJ9, "max", "(II)I"⟩
abbrev cJ9_min_7cf53 : ByteArray := prog_9_method_69_code
def yJ9_min_7cf53 : MethodName := ⟨RJ9, "min", "(II)I"⟩
def RJ0 : String := "java/lang/String"
def TJ0 : u_T := fun k => match k with
  | _ => ("", "", "", false)
def tyJ0 : Nat → FieldType := fun k => match k with
  | _ => .int
abbrev wsJ00 : List Cond := u_ws RJ0 TJ0 0
theorem nmJ0 : ∀ a, a < 0 → ∀ b, b < 0 → a ≠ b → (TJ0 a).2.1 ≠ (TJ0 b).2.1 := by decide +kernel
theorem tyJ0_ok : ∀ k, k < 0 → parseFieldDescriptor (TJ0 k).2.2.1 = some (tyJ0 k) := by decide +kernel
abbrev cJ0_length_8abf5 : ByteArray := prog_10_method_54_code
def yJ0_length_8abf5 : MethodName := ⟨RJ0, "length", "()I"⟩
abbrev cJ0_charAt_5068e : ByteArray := prog_10_method_56_code
def yJ0_charAt_5068e : MethodName := ⟨RJ0, "charAt", "(I)C"⟩
abbrev cJ0_coder_7d493 : ByteArray := prog_10_method_152_code
def yJ0_coder_7d493 : MethodName := ⟨RJ0, "coder", "()B"⟩
abbrev cJ0_isLatin1_aae02 : ByteArray := prog_10_method_154_code
def yJ0_isLatin1_aae02 : MethodName := ⟨RJ0, "isLatin1", "()Z"⟩
abbrev cJ0_checkIndex_df160 : ByteArray := prog_10_method_155_code
def yJ0_checkIndex_df160 : MethodName := ⟨RJ0, "checkIndex", "(II)V"⟩
def RJ1 : String := "java/lang/StringLatin1"
def TJ1 : u_T := fun k => match k with
  | _ => ("", "", "", false)
def tyJ1 : Nat → FieldType := fun k => match k with
  | _ => .int
abbrev wsJ10 : List Cond := u_ws RJ1 TJ1 0
theorem nmJ1 : ∀ a, a < 0 → ∀ b, b < 0 → a ≠ b → (TJ1 a).2.1 ≠ (TJ1 b).2.1 := by decide +kernel
theorem tyJ1_ok : ∀ k, k < 0 → parseFieldDescriptor (TJ1 k).2.2.1 = some (tyJ1 k) := by decide +kernel
abbrev cJ1_charAt_3b067 : ByteArray := prog_11_method_2_code
def yJ1_charAt_3b067 : MethodName := ⟨RJ1, "charAt", "([BI)C"⟩
def RJ2 : String := "java/lang/StringUTF16"
def TJ2 : u_T := fun k => match k with
  | _ => ("", "", "", false)
def tyJ2 : Nat → FieldType := fun k => match k with
  | _ => .int
abbrev wsJ20 : List Cond := u_ws RJ2 TJ2 0
theorem nmJ2 : ∀ a, a < 0 → ∀ b, b < 0 → a ≠ b → (TJ2 a).2.1 ≠ (TJ2 b).2.1 := by decide +kernel
theorem tyJ2_ok : ∀ k, k < 0 → parseFieldDescriptor (TJ2 k).2.2.1 = some (tyJ2 k) := by decide +kernel
abbrev cJ2_getChar_3b067 : ByteArray := prog_12_method_5_code
def yJ2_getChar_3b067 : MethodName := ⟨RJ2, "getChar", "([BI)C"⟩
abbrev cJ2_length_9d52b : ByteArray := prog_12_method_6_code
def yJ2_length_9d52b : MethodName := ⟨RJ2, "length", "([B)I"⟩
abbrev cJ2_charAt_3b067 : ByteArray := prog_12_method_83_code
def yJ2_charAt_3b067 : MethodName := ⟨RJ2, "charAt", "([BI)C"⟩
abbrev cJ2_checkIndex_2214a : ByteArray := prog_12_method_91_code
def yJ2_checkIndex_2214a : MethodName := ⟨RJ2, "checkIndex", "(I[B)V"⟩
def RJ10 : String := "java/lang/System"
def TJ10 : u_T := fun k => match k with
  | _ => ("", "", "", false)
def tyJ10 : Nat → FieldType := fun k => match k with
  | _ => .int
abbrev wsJ100 : List Cond := u_ws RJ10 TJ10 0
theorem nmJ10 : ∀ a, a < 0 → ∀ b, b < 0 → a ≠ b → (TJ10 a).2.1 ≠ (TJ10 b).2.1 := by decide +kernel
theorem tyJ10_ok : ∀ k, k < 0 → parseFieldDescriptor (TJ10 k).2.2.1 = some (tyJ10 k) := by decide +kernel
def RJ3 : String := "jdk/internal/util/Preconditions"
def TJ3 : u_T := fun k => match k with
  | _ => ("", "", "", false)
def tyJ3 : Nat → FieldType := fun k => match k with
  | _ => .int
abbrev wsJ30 : List Cond := u_ws RJ3 TJ3 0
theorem nmJ3 : ∀ a, a < 0 → ∀ b, b < 0 → a ≠ b → (TJ3 a).2.1 ≠ (TJ3 b).2.1 := by decide +kernel
theorem tyJ3_ok : ∀ k, k < 0 → parseFieldDescriptor (TJ3 k).2.2.1 = some (tyJ3 k) := by decide +kernel
abbrev cJ3_checkIndex_8e157 : ByteArray := prog_14_method_11_code
def yJ3_checkIndex_8e157 : MethodName := ⟨RJ3, "checkIndex", "(IILjava/util/function/BiFunction;)I"⟩
def RL : String := "FlockCountsLaw"
abbrev cL_law : ByteArray := code
def yL_law : MethodName := ⟨RL, "law", "([I)Z"⟩
abbrev vwCl : List vw_C := [(RX0, TX0, 10), (RX2, TX2, 3), (RX3, TX3, 5), (RX4, TX4, 7), (RX5, TX5, 18)]
end
section
def wsL : List Cond := lw_tbl.filter goodWord
theorem wsL_lw {w : Cond} (h : w ∈ wsL) : w ∈ lw_tbl := (List.mem_filter.mp h).1
theorem wsL_t {w : Cond} (h : w ∈ tables_1) (g : goodWord w = true) : w ∈ wsL := List.mem_filter.mpr ⟨List.mem_append_right _ h, g⟩
theorem wsL_s {w : Cond} (h : w ∈ k2_sels lw_privs) (g : goodWord w = true) : w ∈ wsL := List.mem_filter.mpr ⟨List.mem_append_left _ h, g⟩
theorem tb_in1 {w : Cond} (h : w ∈ tables_1_1) : w ∈ tables_1 := List.mem_append_left _ h
theorem tb_in2 {w : Cond} (h : w ∈ tables_1_2) : w ∈ tables_1 := List.mem_append_right _ (List.mem_append_left _ h)
theorem tb_in3 {w : Cond} (h : w ∈ tables_1_3) : w ∈ tables_1 := List.mem_append_right _ (List.mem_append_right _ (List.mem_append_left _ h))
theorem tb_in4 {w : Cond} (h : w ∈ tables_1_4) : w ∈ tables_1 := List.mem_append_right _ (List.mem_append_right _ (List.mem_append_right _ (List.mem_append_left _ h)))
theorem tb_in5 {w : Cond} (h : w ∈ tables_1_5) : w ∈ tables_1 := List.mem_append_right _ (List.mem_append_right _ (List.mem_append_right _ (List.mem_append_right _ (h))))
theorem wt1_0 : (Jvm.Cond.initialized "FlockCountsLaw") ∈ wsL := wsL_t (tb_in1 (List.mem_of_getElem? (i := 0) rfl)) rfl
theorem wt1_1 : (Jvm.Cond.initialized "FlockCounts") ∈ wsL := wsL_t (tb_in1 (List.mem_of_getElem? (i := 1) rfl)) rfl
theorem wt1_2 : (Jvm.Cond.initialized "FlockCounts$Fold") ∈ wsL := wsL_t (tb_in1 (List.mem_of_getElem? (i := 2) rfl)) rfl
theorem wt1_3 : (Jvm.Cond.initialized "FlockCounts$Tape") ∈ wsL := wsL_t (tb_in1 (List.mem_of_getElem? (i := 3) rfl)) rfl
theorem wt1_4 : (Jvm.Cond.initialized "FlockCounts$Sheet") ∈ wsL := wsL_t (tb_in1 (List.mem_of_getElem? (i := 4) rfl)) rfl
theorem wt1_5 : (Jvm.Cond.initialized "FlockCountsModel") ∈ wsL := wsL_t (tb_in1 (List.mem_of_getElem? (i := 5) rfl)) rfl
theorem wt1_6 : (Jvm.Cond.initialized "FlockCounts$Kinds") ∈ wsL := wsL_t (tb_in1 (List.mem_of_getElem? (i := 6) rfl)) rfl
theorem wt1_7 : (Jvm.Cond.initialized "java/lang/Integer") ∈ wsL := wsL_t (tb_in1 (List.mem_of_getElem? (i := 7) rfl)) rfl
theorem wt1_8 : (Jvm.Cond.initialized "java/lang/Math") ∈ wsL := wsL_t (tb_in1 (List.mem_of_getElem? (i := 8) rfl)) rfl
theorem wt1_9 : (Jvm.Cond.initialized "java/lang/String") ∈ wsL := wsL_t (tb_in1 (List.mem_of_getElem? (i := 9) rfl)) rfl
theorem wt1_10 : (Jvm.Cond.initialized "java/lang/StringLatin1") ∈ wsL := wsL_t (tb_in1 (List.mem_of_getElem? (i := 10) rfl)) rfl
theorem wt1_11 : (Jvm.Cond.initialized "jdk/internal/util/Preconditions") ∈ wsL := wsL_t (tb_in1 (List.mem_of_getElem? (i := 11) rfl)) rfl
theorem wt1_12 : (Jvm.Cond.initialized "java/lang/StringUTF16") ∈ wsL := wsL_t (tb_in1 (List.mem_of_getElem? (i := 12) rfl)) rfl
theorem wt1_13 : (Jvm.Cond.initialized "java/lang/System") ∈ wsL := wsL_t (tb_in1 (List.mem_of_getElem? (i := 13) rfl)) rfl
theorem wt1_14 : (Jvm.Cond.classLink "FlockCountsLaw" (7 : Nat) "FlockCounts") ∈ wsL := wsL_t (tb_in1 (List.mem_of_getElem? (i := 14) rfl)) rfl
theorem wt1_15 : (Jvm.Cond.instantiable "FlockCounts" (7 : Nat)) ∈ wsL := wsL_t (tb_in1 (List.mem_of_getElem? (i := 15) rfl)) rfl
theorem wt1_16 : (Jvm.Cond.methodLink "FlockCountsLaw" (9 : Nat) ({ cls := "FlockCounts", name := "<init>", desc := "()V" } : Jvm.MethodName)) ∈ wsL := wsL_t (tb_in1 (List.mem_of_getElem? (i := 16) rfl)) rfl
theorem wt1_17 : (Jvm.Cond.instanceMethod ({ cls := "FlockCounts", name := "<init>", desc := "()V" } : Jvm.MethodName)) ∈ wsL := wsL_t (tb_in1 (List.mem_of_getElem? (i := 17) rfl)) rfl
theorem wt1_18 : (Jvm.Cond.code ({ cls := "FlockCounts", name := "<init>", desc := "()V" } : Jvm.MethodName) prog_1_method_1_code (1 : Nat) (Option.none : Option Jvm.ClassFile.FieldType)) ∈ wsL := wsL_t (tb_in1 (List.mem_of_getElem? (i := 18) rfl)) rfl
theorem wt1_19 : (Jvm.Cond.methodLink "FlockCounts" (1 : Nat) ({ cls := "java/lang/Object", name := "<init>", desc := "()V" } : Jvm.MethodName)) ∈ wsL := wsL_t (tb_in1 (List.mem_of_getElem? (i := 19) rfl)) rfl
theorem wt1_20 : (Jvm.Cond.instanceMethod ({ cls := "java/lang/Object", name := "<init>", desc := "()V" } : Jvm.MethodName)) ∈ wsL := wsL_t (tb_in1 (List.mem_of_getElem? (i := 20) rfl)) rfl
theorem wt1_21 : (Jvm.Cond.code ({ cls := "java/lang/Object", name := "<init>", desc := "()V" } : Jvm.MethodName) object_method_1_code (1 : Nat) (Option.none : Option Jvm.ClassFile.FieldType)) ∈ wsL := wsL_t (tb_in1 (List.mem_of_getElem? (i := 21) rfl)) rfl
theorem wt1_22 : (Jvm.Cond.classLink "FlockCounts" (7 : Nat) "FlockCounts$Fold") ∈ wsL := wsL_t (tb_in1 (List.mem_of_getElem? (i := 22) rfl)) rfl
theorem wt1_23 : (Jvm.Cond.instantiable "FlockCounts$Fold" (10 : Nat)) ∈ wsL := wsL_t (tb_in1 (List.mem_of_getElem? (i := 23) rfl)) rfl
theorem wt1_25 : (Jvm.Cond.instanceMethod ({ cls := "FlockCounts$Fold", name := "<init>", desc := "()V" } : Jvm.MethodName)) ∈ wsL := wsL_t (tb_in1 (List.mem_of_getElem? (i := 25) rfl)) rfl
theorem wt1_26 : (Jvm.Cond.code ({ cls := "FlockCounts$Fold", name := "<init>", desc := "()V" } : Jvm.MethodName) prog_2_method_1_code (1 : Nat) (Option.none : Option Jvm.ClassFile.FieldType)) ∈ wsL := wsL_t (tb_in1 (List.mem_of_getElem? (i := 26) rfl)) rfl
theorem wt1_27 : (Jvm.Cond.methodLink "FlockCounts$Fold" (1 : Nat) ({ cls := "java/lang/Object", name := "<init>", desc := "()V" } : Jvm.MethodName)) ∈ wsL := wsL_t (tb_in1 (List.mem_of_getElem? (i := 27) rfl)) rfl
theorem wt1_28 : (Jvm.Cond.fieldLink "FlockCounts$Fold" (29 : Nat) "FlockCounts$Fold" "minute" "I") ∈ wsL := wsL_t (tb_in1 (List.mem_of_getElem? (i := 28) rfl)) rfl
theorem wt1_29 : (Jvm.Cond.fieldLink "FlockCounts" (125 : Nat) "FlockCounts$Fold" "minute" "I") ∈ wsL := wsL_t (tb_in1 (List.mem_of_getElem? (i := 29) rfl)) rfl
theorem wt1_30 : (Jvm.Cond.fieldLink "FlockCounts$Fold" (7 : Nat) "FlockCounts$Fold" "last" "I") ∈ wsL := wsL_t (tb_in1 (List.mem_of_getElem? (i := 30) rfl)) rfl
theorem wt1_31 : (Jvm.Cond.fieldLink "FlockCounts" (119 : Nat) "FlockCounts$Fold" "last" "I") ∈ wsL := wsL_t (tb_in1 (List.mem_of_getElem? (i := 31) rfl)) rfl
theorem wt1_32 : (Jvm.Cond.fieldLink "FlockCounts$Fold" (32 : Nat) "FlockCounts$Fold" "turn" "I") ∈ wsL := wsL_t (tb_in1 (List.mem_of_getElem? (i := 32) rfl)) rfl
theorem wt1_33 : (Jvm.Cond.fieldLink "FlockCounts" (71 : Nat) "FlockCounts$Fold" "turn" "I") ∈ wsL := wsL_t (tb_in1 (List.mem_of_getElem? (i := 33) rfl)) rfl
theorem wt1_34 : (Jvm.Cond.fieldLink "FlockCounts$Fold" (35 : Nat) "FlockCounts$Fold" "manCount" "I") ∈ wsL := wsL_t (tb_in1 (List.mem_of_getElem? (i := 34) rfl)) rfl
theorem wt1_35 : (Jvm.Cond.fieldLink "FlockCounts" (75 : Nat) "FlockCounts$Fold" "manCount" "I") ∈ wsL := wsL_t (tb_in1 (List.mem_of_getElem? (i := 35) rfl)) rfl
theorem wt1_36 : (Jvm.Cond.fieldLink "FlockCounts$Fold" (13 : Nat) "FlockCounts$Fold" "guises" "[I") ∈ wsL := wsL_t (tb_in1 (List.mem_of_getElem? (i := 36) rfl)) rfl
theorem wt1_37 : (Jvm.Cond.fieldLink "FlockCounts" (61 : Nat) "FlockCounts$Fold" "guises" "[I") ∈ wsL := wsL_t (tb_in1 (List.mem_of_getElem? (i := 37) rfl)) rfl
theorem wt1_38 : (Jvm.Cond.fieldLink "FlockCounts$Fold" (17 : Nat) "FlockCounts$Fold" "wears" "[I") ∈ wsL := wsL_t (tb_in1 (List.mem_of_getElem? (i := 38) rfl)) rfl
theorem wt1_39 : (Jvm.Cond.fieldLink "FlockCounts" (64 : Nat) "FlockCounts$Fold" "wears" "[I") ∈ wsL := wsL_t (tb_in1 (List.mem_of_getElem? (i := 39) rfl)) rfl
theorem wt1_40 : (Jvm.Cond.fieldLink "FlockCounts$Fold" (38 : Nat) "FlockCounts$Fold" "sheepCount" "I") ∈ wsL := wsL_t (tb_in1 (List.mem_of_getElem? (i := 40) rfl)) rfl
theorem wt1_41 : (Jvm.Cond.fieldLink "FlockCounts" (181 : Nat) "FlockCounts$Fold" "sheepCount" "I") ∈ wsL := wsL_t (tb_in1 (List.mem_of_getElem? (i := 41) rfl)) rfl
theorem wt1_42 : (Jvm.Cond.fieldLink "FlockCounts$Fold" (20 : Nat) "FlockCounts$Fold" "kinds" "[I") ∈ wsL := wsL_t (tb_in1 (List.mem_of_getElem? (i := 42) rfl)) rfl
theorem wt1_43 : (Jvm.Cond.fieldLink "FlockCounts" (96 : Nat) "FlockCounts$Fold" "kinds" "[I") ∈ wsL := wsL_t (tb_in1 (List.mem_of_getElem? (i := 43) rfl)) rfl
theorem wt1_44 : (Jvm.Cond.fieldLink "FlockCounts$Fold" (23 : Nat) "FlockCounts$Fold" "wants" "[I") ∈ wsL := wsL_t (tb_in1 (List.mem_of_getElem? (i := 44) rfl)) rfl
theorem wt1_45 : (Jvm.Cond.fieldLink "FlockCounts" (99 : Nat) "FlockCounts$Fold" "wants" "[I") ∈ wsL := wsL_t (tb_in1 (List.mem_of_getElem? (i := 45) rfl)) rfl
theorem wt1_46 : (Jvm.Cond.fieldLink "FlockCounts$Fold" (26 : Nat) "FlockCounts$Fold" "seen" "[I") ∈ wsL := wsL_t (tb_in1 (List.mem_of_getElem? (i := 46) rfl)) rfl
theorem wt1_47 : (Jvm.Cond.fieldLink "FlockCounts" (102 : Nat) "FlockCounts$Fold" "seen" "[I") ∈ wsL := wsL_t (tb_in1 (List.mem_of_getElem? (i := 47) rfl)) rfl
theorem wt1_48 : (Jvm.Cond.lays "FlockCounts$Fold" "FlockCounts$Fold" "minute" "I") ∈ wsL := wsL_t (tb_in1 (List.mem_of_getElem? (i := 48) rfl)) rfl
theorem wt1_50 : (Jvm.Cond.lays "FlockCounts$Fold" "FlockCounts$Fold" "last" "I") ∈ wsL := wsL_t (tb_in1 (List.mem_of_getElem? (i := 50) rfl)) rfl
theorem wt1_52 : (Jvm.Cond.lays "FlockCounts$Fold" "FlockCounts$Fold" "turn" "I") ∈ wsL := wsL_t (tb_in1 (List.mem_of_getElem? (i := 52) rfl)) rfl
theorem wt1_54 : (Jvm.Cond.lays "FlockCounts$Fold" "FlockCounts$Fold" "manCount" "I") ∈ wsL := wsL_t (tb_in1 (List.mem_of_getElem? (i := 54) rfl)) rfl
theorem wt1_56 : (Jvm.Cond.laysFinal "FlockCounts$Fold" "FlockCounts$Fold" "guises" "[I") ∈ wsL := wsL_t (tb_in1 (List.mem_of_getElem? (i := 56) rfl)) rfl
theorem wt1_58 : (Jvm.Cond.laysFinal "FlockCounts$Fold" "FlockCounts$Fold" "wears" "[I") ∈ wsL := wsL_t (tb_in1 (List.mem_of_getElem? (i := 58) rfl)) rfl
theorem wt1_60 : (Jvm.Cond.lays "FlockCounts$Fold" "FlockCounts$Fold" "sheepCount" "I") ∈ wsL := wsL_t (tb_in1 (List.mem_of_getElem? (i := 60) rfl)) rfl
theorem wt1_62 : (Jvm.Cond.laysFinal "FlockCounts$Fold" "FlockCounts$Fold" "kinds" "[I") ∈ wsL := wsL_t (tb_in1 (List.mem_of_getElem? (i := 62) rfl)) rfl
theorem wt1_64 : (Jvm.Cond.laysFinal "FlockCounts$Fold" "FlockCounts$Fold" "wants" "[I") ∈ wsL := wsL_t (tb_in1 (List.mem_of_getElem? (i := 64) rfl)) rfl
theorem wt1_66 : (Jvm.Cond.laysFinal "FlockCounts$Fold" "FlockCounts$Fold" "seen" "[I") ∈ wsL := wsL_t (tb_in1 (List.mem_of_getElem? (i := 66) rfl)) rfl
theorem wt1_69 : (Jvm.Cond.arrayClass Jvm.ClassFile.FieldType.int) ∈ wsL := wsL_t (tb_in1 (List.mem_of_getElem? (i := 69) rfl)) rfl
theorem wt1_70 : (Jvm.Cond.classLink "FlockCounts" (22 : Nat) "FlockCounts$Tape") ∈ wsL := wsL_t (tb_in1 (List.mem_of_getElem? (i := 70) rfl)) rfl
theorem wt1_71 : (Jvm.Cond.instantiable "FlockCounts$Tape" (5 : Nat)) ∈ wsL := wsL_t (tb_in1 (List.mem_of_getElem? (i := 71) rfl)) rfl
theorem wt1_73 : (Jvm.Cond.instanceMethod ({ cls := "FlockCounts$Tape", name := "<init>", desc := "()V" } : Jvm.MethodName)) ∈ wsL := wsL_t (tb_in1 (List.mem_of_getElem? (i := 73) rfl)) rfl
theorem wt1_74 : (Jvm.Cond.code ({ cls := "FlockCounts$Tape", name := "<init>", desc := "()V" } : Jvm.MethodName) prog_5_method_1_code (1 : Nat) (Option.none : Option Jvm.ClassFile.FieldType)) ∈ wsL := wsL_t (tb_in1 (List.mem_of_getElem? (i := 74) rfl)) rfl
theorem wt1_75 : (Jvm.Cond.methodLink "FlockCounts$Tape" (1 : Nat) ({ cls := "java/lang/Object", name := "<init>", desc := "()V" } : Jvm.MethodName)) ∈ wsL := wsL_t (tb_in1 (List.mem_of_getElem? (i := 75) rfl)) rfl
theorem wt1_76 : (Jvm.Cond.fieldLink "FlockCounts$Tape" (9 : Nat) "FlockCounts$Tape" "bytes" "[I") ∈ wsL := wsL_t (tb_in1 (List.mem_of_getElem? (i := 76) rfl)) rfl
theorem wt1_77 : (Jvm.Cond.fieldLink "FlockCounts$Tape" (13 : Nat) "FlockCounts$Tape" "length" "I") ∈ wsL := wsL_t (tb_in1 (List.mem_of_getElem? (i := 77) rfl)) rfl
theorem wt1_78 : (Jvm.Cond.fieldLink "FlockCounts" (190 : Nat) "FlockCounts$Tape" "length" "I") ∈ wsL := wsL_t (tb_in1 (List.mem_of_getElem? (i := 78) rfl)) rfl
theorem wt1_79 : (Jvm.Cond.fieldLink "FlockCounts$Tape" (34 : Nat) "FlockCounts$Tape" "sort" "I") ∈ wsL := wsL_t (tb_in1 (List.mem_of_getElem? (i := 79) rfl)) rfl
theorem wt1_80 : (Jvm.Cond.fieldLink "FlockCounts$Tape" (31 : Nat) "FlockCounts$Tape" "start" "I") ∈ wsL := wsL_t (tb_in1 (List.mem_of_getElem? (i := 80) rfl)) rfl
theorem wt1_81 : (Jvm.Cond.fieldLink "FlockCounts$Tape" (21 : Nat) "FlockCounts$Tape" "behind" "I") ∈ wsL := wsL_t (tb_in1 (List.mem_of_getElem? (i := 81) rfl)) rfl
theorem wt1_82 : (Jvm.Cond.laysFinal "FlockCounts$Tape" "FlockCounts$Tape" "bytes" "[I") ∈ wsL := wsL_t (tb_in1 (List.mem_of_getElem? (i := 82) rfl)) rfl
theorem wt1_84 : (Jvm.Cond.lays "FlockCounts$Tape" "FlockCounts$Tape" "length" "I") ∈ wsL := wsL_t (tb_in1 (List.mem_of_getElem? (i := 84) rfl)) rfl
theorem wt1_86 : (Jvm.Cond.lays "FlockCounts$Tape" "FlockCounts$Tape" "sort" "I") ∈ wsL := wsL_t (tb_in1 (List.mem_of_getElem? (i := 86) rfl)) rfl
theorem wt1_88 : (Jvm.Cond.lays "FlockCounts$Tape" "FlockCounts$Tape" "start" "I") ∈ wsL := wsL_t (tb_in1 (List.mem_of_getElem? (i := 88) rfl)) rfl
theorem wt1_90 : (Jvm.Cond.lays "FlockCounts$Tape" "FlockCounts$Tape" "behind" "I") ∈ wsL := wsL_t (tb_in1 (List.mem_of_getElem? (i := 90) rfl)) rfl
theorem wt1_93 : (Jvm.Cond.classLink "FlockCounts" (29 : Nat) "FlockCounts$Sheet") ∈ wsL := wsL_t (tb_in1 (List.mem_of_getElem? (i := 93) rfl)) rfl
theorem wt1_95 : (Jvm.Cond.instantiable "FlockCounts$Sheet" (3 : Nat)) ∈ wsL := wsL_t (tb_in1 (List.mem_of_getElem? (i := 95) rfl)) rfl
theorem wt1_97 : (Jvm.Cond.instanceMethod ({ cls := "FlockCounts$Sheet", name := "<init>", desc := "()V" } : Jvm.MethodName)) ∈ wsL := wsL_t (tb_in1 (List.mem_of_getElem? (i := 97) rfl)) rfl
theorem wt1_98 : (Jvm.Cond.code ({ cls := "FlockCounts$Sheet", name := "<init>", desc := "()V" } : Jvm.MethodName) prog_4_method_1_code (1 : Nat) (Option.none : Option Jvm.ClassFile.FieldType)) ∈ wsL := wsL_t (tb_in1 (List.mem_of_getElem? (i := 98) rfl)) rfl
theorem wt1_99 : (Jvm.Cond.methodLink "FlockCounts$Sheet" (1 : Nat) ({ cls := "java/lang/Object", name := "<init>", desc := "()V" } : Jvm.MethodName)) ∈ wsL := wsL_t (tb_in1 (List.mem_of_getElem? (i := 99) rfl)) rfl
theorem wt1_100 : (Jvm.Cond.fieldLink "FlockCounts$Sheet" (13 : Nat) "FlockCounts$Sheet" "bits" "I") ∈ wsL := wsL_t (tb_in1 (List.mem_of_getElem? (i := 100) rfl)) rfl
theorem wt1_101 : (Jvm.Cond.fieldLink "FlockCounts" (227 : Nat) "FlockCounts$Sheet" "bits" "I") ∈ wsL := wsL_t (tb_in1 (List.mem_of_getElem? (i := 101) rfl)) rfl
theorem wt1_102 : (Jvm.Cond.fieldLink "FlockCounts$Sheet" (17 : Nat) "FlockCounts$Sheet" "length" "I") ∈ wsL := wsL_t (tb_in1 (List.mem_of_getElem? (i := 102) rfl)) rfl
theorem wt1_103 : (Jvm.Cond.fieldLink "FlockCounts" (211 : Nat) "FlockCounts$Sheet" "length" "I") ∈ wsL := wsL_t (tb_in1 (List.mem_of_getElem? (i := 103) rfl)) rfl
theorem wt1_104 : (Jvm.Cond.fieldLink "FlockCounts$Sheet" (9 : Nat) "FlockCounts$Sheet" "numbers" "[J") ∈ wsL := wsL_t (tb_in1 (List.mem_of_getElem? (i := 104) rfl)) rfl
theorem wt1_105 : (Jvm.Cond.fieldLink "FlockCounts" (215 : Nat) "FlockCounts$Sheet" "numbers" "[J") ∈ wsL := wsL_t (tb_in1 (List.mem_of_getElem? (i := 105) rfl)) rfl
theorem wt1_106 : (Jvm.Cond.lays "FlockCounts$Sheet" "FlockCounts$Sheet" "bits" "I") ∈ wsL := wsL_t (tb_in1 (List.mem_of_getElem? (i := 106) rfl)) rfl
theorem wt1_108 : (Jvm.Cond.lays "FlockCounts$Sheet" "FlockCounts$Sheet" "length" "I") ∈ wsL := wsL_t (tb_in1 (List.mem_of_getElem? (i := 108) rfl)) rfl
theorem wt1_110 : (Jvm.Cond.laysFinal "FlockCounts$Sheet" "FlockCounts$Sheet" "numbers" "[J") ∈ wsL := wsL_t (tb_in1 (List.mem_of_getElem? (i := 110) rfl)) rfl
theorem wt1_113 : (Jvm.Cond.arrayClass Jvm.ClassFile.FieldType.long) ∈ wsL := wsL_t (tb_in1 (List.mem_of_getElem? (i := 113) rfl)) rfl
theorem wt1_114 : (Jvm.Cond.fieldLink "FlockCounts" (10 : Nat) "FlockCounts" "fold" "LFlockCounts$Fold;") ∈ wsL := wsL_t (tb_in1 (List.mem_of_getElem? (i := 114) rfl)) rfl
theorem wt1_115 : (Jvm.Cond.fieldLink "FlockCounts" (16 : Nat) "FlockCounts" "trial" "LFlockCounts$Fold;") ∈ wsL := wsL_t (tb_in1 (List.mem_of_getElem? (i := 115) rfl)) rfl
theorem wt1_116 : (Jvm.Cond.fieldLink "FlockCounts" (19 : Nat) "FlockCounts" "kept" "LFlockCounts$Fold;") ∈ wsL := wsL_t (tb_in1 (List.mem_of_getElem? (i := 116) rfl)) rfl
theorem wt1_117 : (Jvm.Cond.fieldLink "FlockCounts" (245 : Nat) "FlockCounts" "isKept" "Z") ∈ wsL := wsL_t (tb_in1 (List.mem_of_getElem? (i := 117) rfl)) rfl
theorem wt1_118 : (Jvm.Cond.fieldLink "FlockCounts" (25 : Nat) "FlockCounts" "tape" "LFlockCounts$Tape;") ∈ wsL := wsL_t (tb_in1 (List.mem_of_getElem? (i := 118) rfl)) rfl
theorem wt1_119 : (Jvm.Cond.fieldLink "FlockCounts" (32 : Nat) "FlockCounts" "sheets" "[LFlockCounts$Sheet;") ∈ wsL := wsL_t (tb_in1 (List.mem_of_getElem? (i := 119) rfl)) rfl
theorem wt1_120 : (Jvm.Cond.fieldLink "FlockCounts" (36 : Nat) "FlockCounts" "told" "[I") ∈ wsL := wsL_t (tb_in1 (List.mem_of_getElem? (i := 120) rfl)) rfl
theorem wt1_121 : (Jvm.Cond.laysFinal "FlockCounts" "FlockCounts" "fold" "LFlockCounts$Fold;") ∈ wsL := wsL_t (tb_in1 (List.mem_of_getElem? (i := 121) rfl)) rfl
theorem wt1_123 : (Jvm.Cond.laysFinal "FlockCounts" "FlockCounts" "trial" "LFlockCounts$Fold;") ∈ wsL := wsL_t (tb_in1 (List.mem_of_getElem? (i := 123) rfl)) rfl
theorem wt1_125 : (Jvm.Cond.laysFinal "FlockCounts" "FlockCounts" "kept" "LFlockCounts$Fold;") ∈ wsL := wsL_t (tb_in1 (List.mem_of_getElem? (i := 125) rfl)) rfl
theorem wt1_127 : (Jvm.Cond.lays "FlockCounts" "FlockCounts" "isKept" "Z") ∈ wsL := wsL_t (tb_in1 (List.mem_of_getElem? (i := 127) rfl)) rfl
theorem wt1_129 : (Jvm.Cond.laysFinal "FlockCounts" "FlockCounts" "tape" "LFlockCounts$Tape;") ∈ wsL := wsL_t (tb_in1 (List.mem_of_getElem? (i := 129) rfl)) rfl
theorem wt1_131 : (Jvm.Cond.laysFinal "FlockCounts" "FlockCounts" "sheets" "[LFlockCounts$Sheet;") ∈ wsL := wsL_t (tb_in1 (List.mem_of_getElem? (i := 131) rfl)) rfl
theorem wt1_133 : (Jvm.Cond.laysFinal "FlockCounts" "FlockCounts" "told" "[I") ∈ wsL := wsL_t (tb_in1 (List.mem_of_getElem? (i := 133) rfl)) rfl
theorem wt1_136 : (Jvm.Cond.methodLink "FlockCountsLaw" (13 : Nat) ({ cls := "FlockCounts", name := "man", desc := "(I)I" } : Jvm.MethodName)) ∈ wsL := wsL_t (tb_in1 (List.mem_of_getElem? (i := 136) rfl)) rfl
theorem wt1_137 : (Jvm.Cond.instanceMethod ({ cls := "FlockCounts", name := "man", desc := "(I)I" } : Jvm.MethodName)) ∈ wsL := wsL_t (tb_in1 (List.mem_of_getElem? (i := 137) rfl)) rfl
theorem wt1_138 : (Jvm.Cond.selects "FlockCounts" ({ cls := "FlockCounts", name := "man", desc := "(I)I" } : Jvm.MethodName) ({ cls := "FlockCounts", name := "man", desc := "(I)I" } : Jvm.MethodName)) ∈ wsL := wsL_t (tb_in1 (List.mem_of_getElem? (i := 138) rfl)) rfl
theorem wt1_139 : (Jvm.Cond.code ({ cls := "FlockCounts", name := "man", desc := "(I)I" } : Jvm.MethodName) prog_1_method_2_code (2 : Nat) (Option.some Jvm.ClassFile.FieldType.int)) ∈ wsL := wsL_t (tb_in1 (List.mem_of_getElem? (i := 139) rfl)) rfl
theorem wt1_140 : (Jvm.Cond.methodLink "FlockCounts" (40 : Nat) ({ cls := "FlockCounts", name := "isGuise", desc := "(I)Z" } : Jvm.MethodName)) ∈ wsL := wsL_t (tb_in1 (List.mem_of_getElem? (i := 140) rfl)) rfl
theorem wt1_141 : (Jvm.Cond.static ({ cls := "FlockCounts", name := "isGuise", desc := "(I)Z" } : Jvm.MethodName)) ∈ wsL := wsL_t (tb_in1 (List.mem_of_getElem? (i := 141) rfl)) rfl
theorem wt1_142 : (Jvm.Cond.code ({ cls := "FlockCounts", name := "isGuise", desc := "(I)Z" } : Jvm.MethodName) prog_1_method_43_code (1 : Nat) (Option.some Jvm.ClassFile.FieldType.boolean)) ∈ wsL := wsL_t (tb_in1 (List.mem_of_getElem? (i := 142) rfl)) rfl
theorem wt1_143 : (Jvm.Cond.methodLink "FlockCounts" (67 : Nat) ({ cls := "FlockCounts", name := "isWithin", desc := "(III)Z" } : Jvm.MethodName)) ∈ wsL := wsL_t (tb_in1 (List.mem_of_getElem? (i := 143) rfl)) rfl
theorem wt1_144 : (Jvm.Cond.static ({ cls := "FlockCounts", name := "isWithin", desc := "(III)Z" } : Jvm.MethodName)) ∈ wsL := wsL_t (tb_in1 (List.mem_of_getElem? (i := 144) rfl)) rfl
theorem wt1_145 : (Jvm.Cond.code ({ cls := "FlockCounts", name := "isWithin", desc := "(III)Z" } : Jvm.MethodName) prog_1_method_42_code (3 : Nat) (Option.some Jvm.ClassFile.FieldType.boolean)) ∈ wsL := wsL_t (tb_in1 (List.mem_of_getElem? (i := 145) rfl)) rfl
theorem wt1_146 : (Jvm.Cond.constant "FlockCounts" (44 : Nat) (-1000000001 : Int32)) ∈ wsL := wsL_t (tb_in1 (List.mem_of_getElem? (i := 146) rfl)) rfl
theorem wt1_147 : (Jvm.Cond.methodLink "FlockCounts" (45 : Nat) ({ cls := "FlockCounts", name := "tell", desc := "(I)I" } : Jvm.MethodName)) ∈ wsL := wsL_t (tb_in1 (List.mem_of_getElem? (i := 147) rfl)) rfl
theorem wt1_149 : (Jvm.Cond.instanceMethod ({ cls := "FlockCounts", name := "tell", desc := "(I)I" } : Jvm.MethodName)) ∈ wsL := wsL_t (tb_in1 (List.mem_of_getElem? (i := 149) rfl)) rfl
theorem wt1_150 : (Jvm.Cond.code ({ cls := "FlockCounts", name := "tell", desc := "(I)I" } : Jvm.MethodName) prog_1_method_46_code (3 : Nat) (Option.some Jvm.ClassFile.FieldType.int)) ∈ wsL := wsL_t (tb_in1 (List.mem_of_getElem? (i := 150) rfl)) rfl
theorem wt1_151 : (Jvm.Cond.methodLink "FlockCounts" (49 : Nat) ({ cls := "FlockCounts$Fold", name := "hasRoomForMan", desc := "()Z" } : Jvm.MethodName)) ∈ wsL := wsL_t (tb_in1 (List.mem_of_getElem? (i := 151) rfl)) rfl
theorem wt1_152 : (Jvm.Cond.instanceMethod ({ cls := "FlockCounts$Fold", name := "hasRoomForMan", desc := "()Z" } : Jvm.MethodName)) ∈ wsL := wsL_t (tb_in1 (List.mem_of_getElem? (i := 152) rfl)) rfl
theorem wt1_153 : (Jvm.Cond.selects "FlockCounts$Fold" ({ cls := "FlockCounts$Fold", name := "hasRoomForMan", desc := "()Z" } : Jvm.MethodName) ({ cls := "FlockCounts$Fold", name := "hasRoomForMan", desc := "()Z" } : Jvm.MethodName)) ∈ wsL := wsL_t (tb_in1 (List.mem_of_getElem? (i := 153) rfl)) rfl
theorem wt1_154 : (Jvm.Cond.code ({ cls := "FlockCounts$Fold", name := "hasRoomForMan", desc := "()Z" } : Jvm.MethodName) prog_2_method_5_code (1 : Nat) (Option.some Jvm.ClassFile.FieldType.boolean)) ∈ wsL := wsL_t (tb_in1 (List.mem_of_getElem? (i := 154) rfl)) rfl
theorem wt1_155 : (Jvm.Cond.constant "FlockCounts" (53 : Nat) (-1000000002 : Int32)) ∈ wsL := wsL_t (tb_in1 (List.mem_of_getElem? (i := 155) rfl)) rfl
theorem wt1_156 : (Jvm.Cond.methodLink "FlockCounts" (54 : Nat) ({ cls := "FlockCounts$Fold", name := "addMan", desc := "(II)I" } : Jvm.MethodName)) ∈ wsL := wsL_t (tb_in1 (List.mem_of_getElem? (i := 156) rfl)) rfl
theorem wt1_157 : (Jvm.Cond.instanceMethod ({ cls := "FlockCounts$Fold", name := "addMan", desc := "(II)I" } : Jvm.MethodName)) ∈ wsL := wsL_t (tb_in1 (List.mem_of_getElem? (i := 157) rfl)) rfl
theorem wt1_158 : (Jvm.Cond.selects "FlockCounts$Fold" ({ cls := "FlockCounts$Fold", name := "addMan", desc := "(II)I" } : Jvm.MethodName) ({ cls := "FlockCounts$Fold", name := "addMan", desc := "(II)I" } : Jvm.MethodName)) ∈ wsL := wsL_t (tb_in1 (List.mem_of_getElem? (i := 158) rfl)) rfl
theorem wt1_159 : (Jvm.Cond.code ({ cls := "FlockCounts$Fold", name := "addMan", desc := "(II)I" } : Jvm.MethodName) prog_2_method_7_code (4 : Nat) (Option.some Jvm.ClassFile.FieldType.int)) ∈ wsL := wsL_t (tb_in1 (List.mem_of_getElem? (i := 159) rfl)) rfl
theorem wt1_160 : (Jvm.Cond.methodLink "FlockCounts$Fold" (41 : Nat) ({ cls := "FlockCounts$Fold", name := "hasRoomForMan", desc := "()Z" } : Jvm.MethodName)) ∈ wsL := wsL_t (tb_in1 (List.mem_of_getElem? (i := 160) rfl)) rfl
theorem wt1_161 : (Jvm.Cond.methodLink "FlockCountsLaw" (18 : Nat) ({ cls := "FlockCounts", name := "manOf", desc := "(II)I" } : Jvm.MethodName)) ∈ wsL := wsL_t (tb_in1 (List.mem_of_getElem? (i := 161) rfl)) rfl
theorem wt1_162 : (Jvm.Cond.instanceMethod ({ cls := "FlockCounts", name := "manOf", desc := "(II)I" } : Jvm.MethodName)) ∈ wsL := wsL_t (tb_in1 (List.mem_of_getElem? (i := 162) rfl)) rfl
theorem wt1_163 : (Jvm.Cond.selects "FlockCounts" ({ cls := "FlockCounts", name := "manOf", desc := "(II)I" } : Jvm.MethodName) ({ cls := "FlockCounts", name := "manOf", desc := "(II)I" } : Jvm.MethodName)) ∈ wsL := wsL_t (tb_in1 (List.mem_of_getElem? (i := 163) rfl)) rfl
theorem wt1_164 : (Jvm.Cond.code ({ cls := "FlockCounts", name := "manOf", desc := "(II)I" } : Jvm.MethodName) prog_1_method_3_code (3 : Nat) (Option.some Jvm.ClassFile.FieldType.int)) ∈ wsL := wsL_t (tb_in1 (List.mem_of_getElem? (i := 164) rfl)) rfl
theorem wt1_165 : (Jvm.Cond.methodLink "FlockCounts" (58 : Nat) ({ cls := "FlockCounts$Fold", name := "hasMan", desc := "(I)Z" } : Jvm.MethodName)) ∈ wsL := wsL_t (tb_in1 (List.mem_of_getElem? (i := 165) rfl)) rfl
theorem wt1_166 : (Jvm.Cond.instanceMethod ({ cls := "FlockCounts$Fold", name := "hasMan", desc := "(I)Z" } : Jvm.MethodName)) ∈ wsL := wsL_t (tb_in1 (List.mem_of_getElem? (i := 166) rfl)) rfl
theorem wt1_167 : (Jvm.Cond.selects "FlockCounts$Fold" ({ cls := "FlockCounts$Fold", name := "hasMan", desc := "(I)Z" } : Jvm.MethodName) ({ cls := "FlockCounts$Fold", name := "hasMan", desc := "(I)Z" } : Jvm.MethodName)) ∈ wsL := wsL_t (tb_in1 (List.mem_of_getElem? (i := 167) rfl)) rfl
theorem wt1_168 : (Jvm.Cond.code ({ cls := "FlockCounts$Fold", name := "hasMan", desc := "(I)Z" } : Jvm.MethodName) prog_2_method_3_code (2 : Nat) (Option.some Jvm.ClassFile.FieldType.boolean)) ∈ wsL := wsL_t (tb_in1 (List.mem_of_getElem? (i := 168) rfl)) rfl
theorem wt1_169 : (Jvm.Cond.methodLink "FlockCountsLaw" (23 : Nat) ({ cls := "FlockCounts", name := "dress", desc := "(III)I" } : Jvm.MethodName)) ∈ wsL := wsL_t (tb_in1 (List.mem_of_getElem? (i := 169) rfl)) rfl
theorem wt1_170 : (Jvm.Cond.instanceMethod ({ cls := "FlockCounts", name := "dress", desc := "(III)I" } : Jvm.MethodName)) ∈ wsL := wsL_t (tb_in1 (List.mem_of_getElem? (i := 170) rfl)) rfl
theorem wt1_171 : (Jvm.Cond.selects "FlockCounts" ({ cls := "FlockCounts", name := "dress", desc := "(III)I" } : Jvm.MethodName) ({ cls := "FlockCounts", name := "dress", desc := "(III)I" } : Jvm.MethodName)) ∈ wsL := wsL_t (tb_in1 (List.mem_of_getElem? (i := 171) rfl)) rfl
theorem wt1_172 : (Jvm.Cond.code ({ cls := "FlockCounts", name := "dress", desc := "(III)I" } : Jvm.MethodName) prog_1_method_4_code (5 : Nat) (Option.some Jvm.ClassFile.FieldType.int)) ∈ wsL := wsL_t (tb_in1 (List.mem_of_getElem? (i := 172) rfl)) rfl
theorem wt1_173 : (Jvm.Cond.methodLink "FlockCountsLaw" (28 : Nat) ({ cls := "FlockCounts", name := "first", desc := "(I)I" } : Jvm.MethodName)) ∈ wsL := wsL_t (tb_in1 (List.mem_of_getElem? (i := 173) rfl)) rfl
theorem wt1_174 : (Jvm.Cond.instanceMethod ({ cls := "FlockCounts", name := "first", desc := "(I)I" } : Jvm.MethodName)) ∈ wsL := wsL_t (tb_in1 (List.mem_of_getElem? (i := 174) rfl)) rfl
theorem wt1_175 : (Jvm.Cond.selects "FlockCounts" ({ cls := "FlockCounts", name := "first", desc := "(I)I" } : Jvm.MethodName) ({ cls := "FlockCounts", name := "first", desc := "(I)I" } : Jvm.MethodName)) ∈ wsL := wsL_t (tb_in1 (List.mem_of_getElem? (i := 175) rfl)) rfl
theorem wt1_176 : (Jvm.Cond.code ({ cls := "FlockCounts", name := "first", desc := "(I)I" } : Jvm.MethodName) prog_1_method_5_code (3 : Nat) (Option.some Jvm.ClassFile.FieldType.int)) ∈ wsL := wsL_t (tb_in1 (List.mem_of_getElem? (i := 176) rfl)) rfl
theorem wt1_177 : (Jvm.Cond.methodLink "FlockCountsLaw" (32 : Nat) ({ cls := "FlockCounts", name := "goesHome", desc := "()I" } : Jvm.MethodName)) ∈ wsL := wsL_t (tb_in1 (List.mem_of_getElem? (i := 177) rfl)) rfl
theorem wt1_178 : (Jvm.Cond.instanceMethod ({ cls := "FlockCounts", name := "goesHome", desc := "()I" } : Jvm.MethodName)) ∈ wsL := wsL_t (tb_in1 (List.mem_of_getElem? (i := 178) rfl)) rfl
theorem wt1_179 : (Jvm.Cond.selects "FlockCounts" ({ cls := "FlockCounts", name := "goesHome", desc := "()I" } : Jvm.MethodName) ({ cls := "FlockCounts", name := "goesHome", desc := "()I" } : Jvm.MethodName)) ∈ wsL := wsL_t (tb_in1 (List.mem_of_getElem? (i := 179) rfl)) rfl
theorem wt1_180 : (Jvm.Cond.code ({ cls := "FlockCounts", name := "goesHome", desc := "()I" } : Jvm.MethodName) prog_1_method_6_code (1 : Nat) (Option.some Jvm.ClassFile.FieldType.int)) ∈ wsL := wsL_t (tb_in1 (List.mem_of_getElem? (i := 180) rfl)) rfl
theorem wt1_181 : (Jvm.Cond.constant "FlockCounts" (78 : Nat) (-1000000004 : Int32)) ∈ wsL := wsL_t (tb_in1 (List.mem_of_getElem? (i := 181) rfl)) rfl
theorem wt1_182 : (Jvm.Cond.methodLink "FlockCounts" (79 : Nat) ({ cls := "FlockCounts$Fold", name := "dropLastMan", desc := "()V" } : Jvm.MethodName)) ∈ wsL := wsL_t (tb_in1 (List.mem_of_getElem? (i := 182) rfl)) rfl
theorem wt1_183 : (Jvm.Cond.instanceMethod ({ cls := "FlockCounts$Fold", name := "dropLastMan", desc := "()V" } : Jvm.MethodName)) ∈ wsL := wsL_t (tb_in1 (List.mem_of_getElem? (i := 183) rfl)) rfl
theorem wt1_184 : (Jvm.Cond.selects "FlockCounts$Fold" ({ cls := "FlockCounts$Fold", name := "dropLastMan", desc := "()V" } : Jvm.MethodName) ({ cls := "FlockCounts$Fold", name := "dropLastMan", desc := "()V" } : Jvm.MethodName)) ∈ wsL := wsL_t (tb_in1 (List.mem_of_getElem? (i := 184) rfl)) rfl
theorem wt1_185 : (Jvm.Cond.code ({ cls := "FlockCounts$Fold", name := "dropLastMan", desc := "()V" } : Jvm.MethodName) prog_2_method_9_code (1 : Nat) (Option.none : Option Jvm.ClassFile.FieldType)) ∈ wsL := wsL_t (tb_in1 (List.mem_of_getElem? (i := 185) rfl)) rfl
theorem wt1_186 : (Jvm.Cond.methodLink "FlockCountsLaw" (37 : Nat) ({ cls := "FlockCounts", name := "sheep", desc := "(I)I" } : Jvm.MethodName)) ∈ wsL := wsL_t (tb_in1 (List.mem_of_getElem? (i := 186) rfl)) rfl
theorem wt1_187 : (Jvm.Cond.instanceMethod ({ cls := "FlockCounts", name := "sheep", desc := "(I)I" } : Jvm.MethodName)) ∈ wsL := wsL_t (tb_in1 (List.mem_of_getElem? (i := 187) rfl)) rfl
theorem wt1_188 : (Jvm.Cond.selects "FlockCounts" ({ cls := "FlockCounts", name := "sheep", desc := "(I)I" } : Jvm.MethodName) ({ cls := "FlockCounts", name := "sheep", desc := "(I)I" } : Jvm.MethodName)) ∈ wsL := wsL_t (tb_in1 (List.mem_of_getElem? (i := 188) rfl)) rfl
theorem wt1_189 : (Jvm.Cond.code ({ cls := "FlockCounts", name := "sheep", desc := "(I)I" } : Jvm.MethodName) prog_1_method_7_code (2 : Nat) (Option.some Jvm.ClassFile.FieldType.int)) ∈ wsL := wsL_t (tb_in1 (List.mem_of_getElem? (i := 189) rfl)) rfl
theorem wt1_190 : (Jvm.Cond.methodLink "FlockCounts" (82 : Nat) ({ cls := "FlockCounts$Kinds", name := "isKind", desc := "(I)Z" } : Jvm.MethodName)) ∈ wsL := wsL_t (tb_in1 (List.mem_of_getElem? (i := 190) rfl)) rfl
theorem wt1_191 : (Jvm.Cond.static ({ cls := "FlockCounts$Kinds", name := "isKind", desc := "(I)Z" } : Jvm.MethodName)) ∈ wsL := wsL_t (tb_in1 (List.mem_of_getElem? (i := 191) rfl)) rfl
theorem wt1_192 : (Jvm.Cond.code ({ cls := "FlockCounts$Kinds", name := "isKind", desc := "(I)Z" } : Jvm.MethodName) prog_3_method_2_code (1 : Nat) (Option.some Jvm.ClassFile.FieldType.boolean)) ∈ wsL := wsL_t (tb_in1 (List.mem_of_getElem? (i := 192) rfl)) rfl
theorem wt1_193 : (Jvm.Cond.methodLink "FlockCounts" (87 : Nat) ({ cls := "FlockCounts$Fold", name := "hasRoomForSheep", desc := "()Z" } : Jvm.MethodName)) ∈ wsL := wsL_t (tb_in1 (List.mem_of_getElem? (i := 193) rfl)) rfl
theorem wt1_194 : (Jvm.Cond.instanceMethod ({ cls := "FlockCounts$Fold", name := "hasRoomForSheep", desc := "()Z" } : Jvm.MethodName)) ∈ wsL := wsL_t (tb_in1 (List.mem_of_getElem? (i := 194) rfl)) rfl
theorem wt1_195 : (Jvm.Cond.selects "FlockCounts$Fold" ({ cls := "FlockCounts$Fold", name := "hasRoomForSheep", desc := "()Z" } : Jvm.MethodName) ({ cls := "FlockCounts$Fold", name := "hasRoomForSheep", desc := "()Z" } : Jvm.MethodName)) ∈ wsL := wsL_t (tb_in1 (List.mem_of_getElem? (i := 195) rfl)) rfl
theorem wt1_196 : (Jvm.Cond.code ({ cls := "FlockCounts$Fold", name := "hasRoomForSheep", desc := "()Z" } : Jvm.MethodName) prog_2_method_6_code (1 : Nat) (Option.some Jvm.ClassFile.FieldType.boolean)) ∈ wsL := wsL_t (tb_in1 (List.mem_of_getElem? (i := 196) rfl)) rfl
theorem wt1_197 : (Jvm.Cond.methodLink "FlockCounts" (90 : Nat) ({ cls := "FlockCounts$Fold", name := "addSheep", desc := "(II)I" } : Jvm.MethodName)) ∈ wsL := wsL_t (tb_in1 (List.mem_of_getElem? (i := 197) rfl)) rfl
theorem wt1_198 : (Jvm.Cond.instanceMethod ({ cls := "FlockCounts$Fold", name := "addSheep", desc := "(II)I" } : Jvm.MethodName)) ∈ wsL := wsL_t (tb_in1 (List.mem_of_getElem? (i := 198) rfl)) rfl
theorem wt1_199 : (Jvm.Cond.selects "FlockCounts$Fold" ({ cls := "FlockCounts$Fold", name := "addSheep", desc := "(II)I" } : Jvm.MethodName) ({ cls := "FlockCounts$Fold", name := "addSheep", desc := "(II)I" } : Jvm.MethodName)) ∈ wsL := wsL_t (tb_in1 (List.mem_of_getElem? (i := 199) rfl)) rfl
theorem wt1_200 : (Jvm.Cond.code ({ cls := "FlockCounts$Fold", name := "addSheep", desc := "(II)I" } : Jvm.MethodName) prog_2_method_8_code (4 : Nat) (Option.some Jvm.ClassFile.FieldType.int)) ∈ wsL := wsL_t (tb_in1 (List.mem_of_getElem? (i := 200) rfl)) rfl
theorem wt1_201 : (Jvm.Cond.methodLink "FlockCounts$Fold" (45 : Nat) ({ cls := "FlockCounts$Fold", name := "hasRoomForSheep", desc := "()Z" } : Jvm.MethodName)) ∈ wsL := wsL_t (tb_in1 (List.mem_of_getElem? (i := 201) rfl)) rfl
theorem wt1_202 : (Jvm.Cond.methodLink "FlockCountsLaw" (41 : Nat) ({ cls := "FlockCounts", name := "of", desc := "(II)I" } : Jvm.MethodName)) ∈ wsL := wsL_t (tb_in1 (List.mem_of_getElem? (i := 202) rfl)) rfl
theorem wt1_203 : (Jvm.Cond.instanceMethod ({ cls := "FlockCounts", name := "of", desc := "(II)I" } : Jvm.MethodName)) ∈ wsL := wsL_t (tb_in1 (List.mem_of_getElem? (i := 203) rfl)) rfl
theorem wt1_204 : (Jvm.Cond.selects "FlockCounts" ({ cls := "FlockCounts", name := "of", desc := "(II)I" } : Jvm.MethodName) ({ cls := "FlockCounts", name := "of", desc := "(II)I" } : Jvm.MethodName)) ∈ wsL := wsL_t (tb_in1 (List.mem_of_getElem? (i := 204) rfl)) rfl
theorem wt1_205 : (Jvm.Cond.code ({ cls := "FlockCounts", name := "of", desc := "(II)I" } : Jvm.MethodName) prog_1_method_8_code (3 : Nat) (Option.some Jvm.ClassFile.FieldType.int)) ∈ wsL := wsL_t (tb_in1 (List.mem_of_getElem? (i := 205) rfl)) rfl
theorem wt1_206 : (Jvm.Cond.methodLink "FlockCounts" (93 : Nat) ({ cls := "FlockCounts$Fold", name := "hasSheep", desc := "(I)Z" } : Jvm.MethodName)) ∈ wsL := wsL_t (tb_in1 (List.mem_of_getElem? (i := 206) rfl)) rfl
theorem wt1_207 : (Jvm.Cond.instanceMethod ({ cls := "FlockCounts$Fold", name := "hasSheep", desc := "(I)Z" } : Jvm.MethodName)) ∈ wsL := wsL_t (tb_in1 (List.mem_of_getElem? (i := 207) rfl)) rfl
theorem wt1_208 : (Jvm.Cond.selects "FlockCounts$Fold" ({ cls := "FlockCounts$Fold", name := "hasSheep", desc := "(I)Z" } : Jvm.MethodName) ({ cls := "FlockCounts$Fold", name := "hasSheep", desc := "(I)Z" } : Jvm.MethodName)) ∈ wsL := wsL_t (tb_in1 (List.mem_of_getElem? (i := 208) rfl)) rfl
theorem wt1_209 : (Jvm.Cond.code ({ cls := "FlockCounts$Fold", name := "hasSheep", desc := "(I)Z" } : Jvm.MethodName) prog_2_method_4_code (2 : Nat) (Option.some Jvm.ClassFile.FieldType.boolean)) ∈ wsL := wsL_t (tb_in1 (List.mem_of_getElem? (i := 209) rfl)) rfl
theorem wt1_210 : (Jvm.Cond.methodLink "FlockCounts" (105 : Nat) ({ cls := "FlockCounts$Fold", name := "isAsleep", desc := "(I)Z" } : Jvm.MethodName)) ∈ wsL := wsL_t (tb_in1 (List.mem_of_getElem? (i := 210) rfl)) rfl
theorem wt1_211 : (Jvm.Cond.instanceMethod ({ cls := "FlockCounts$Fold", name := "isAsleep", desc := "(I)Z" } : Jvm.MethodName)) ∈ wsL := wsL_t (tb_in1 (List.mem_of_getElem? (i := 211) rfl)) rfl
theorem wt1_212 : (Jvm.Cond.selects "FlockCounts$Fold" ({ cls := "FlockCounts$Fold", name := "isAsleep", desc := "(I)Z" } : Jvm.MethodName) ({ cls := "FlockCounts$Fold", name := "isAsleep", desc := "(I)Z" } : Jvm.MethodName)) ∈ wsL := wsL_t (tb_in1 (List.mem_of_getElem? (i := 212) rfl)) rfl
theorem wt1_213 : (Jvm.Cond.code ({ cls := "FlockCounts$Fold", name := "isAsleep", desc := "(I)Z" } : Jvm.MethodName) prog_2_method_13_code (2 : Nat) (Option.some Jvm.ClassFile.FieldType.boolean)) ∈ wsL := wsL_t (tb_in1 (List.mem_of_getElem? (i := 213) rfl)) rfl
theorem wt1_214 : (Jvm.Cond.methodLink "FlockCounts" (108 : Nat) ({ cls := "FlockCounts$Kinds", name := "wakesBy", desc := "(I)I" } : Jvm.MethodName)) ∈ wsL := wsL_t (tb_in1 (List.mem_of_getElem? (i := 214) rfl)) rfl
theorem wt1_215 : (Jvm.Cond.static ({ cls := "FlockCounts$Kinds", name := "wakesBy", desc := "(I)I" } : Jvm.MethodName)) ∈ wsL := wsL_t (tb_in1 (List.mem_of_getElem? (i := 215) rfl)) rfl
theorem wt1_216 : (Jvm.Cond.code ({ cls := "FlockCounts$Kinds", name := "wakesBy", desc := "(I)I" } : Jvm.MethodName) prog_3_method_4_code (1 : Nat) (Option.some Jvm.ClassFile.FieldType.int)) ∈ wsL := wsL_t (tb_in1 (List.mem_of_getElem? (i := 216) rfl)) rfl
theorem wt1_217 : (Jvm.Cond.methodLink "FlockCounts$Kinds" (21 : Nat) ({ cls := "FlockCounts$Kinds", name := "isKind", desc := "(I)Z" } : Jvm.MethodName)) ∈ wsL := wsL_t (tb_in1 (List.mem_of_getElem? (i := 217) rfl)) rfl
theorem wt1_218 : (Jvm.Cond.fieldLink "FlockCounts$Kinds" (25 : Nat) "FlockCounts$Kinds" "WAKES" "[I") ∈ wsL := wsL_t (tb_in1 (List.mem_of_getElem? (i := 218) rfl)) rfl
theorem wt1_220 : (Jvm.Cond.methodLink "FlockCounts" (111 : Nat) ({ cls := "FlockCounts$Kinds", name := "tiresBy", desc := "(I)I" } : Jvm.MethodName)) ∈ wsL := wsL_t (tb_in1 (List.mem_of_getElem? (i := 220) rfl)) rfl
theorem wt1_221 : (Jvm.Cond.static ({ cls := "FlockCounts$Kinds", name := "tiresBy", desc := "(I)I" } : Jvm.MethodName)) ∈ wsL := wsL_t (tb_in1 (List.mem_of_getElem? (i := 221) rfl)) rfl
theorem wt1_222 : (Jvm.Cond.code ({ cls := "FlockCounts$Kinds", name := "tiresBy", desc := "(I)I" } : Jvm.MethodName) prog_3_method_5_code (1 : Nat) (Option.some Jvm.ClassFile.FieldType.int)) ∈ wsL := wsL_t (tb_in1 (List.mem_of_getElem? (i := 222) rfl)) rfl
theorem wt1_223 : (Jvm.Cond.fieldLink "FlockCounts$Kinds" (29 : Nat) "FlockCounts$Kinds" "TIRES" "[I") ∈ wsL := wsL_t (tb_in1 (List.mem_of_getElem? (i := 223) rfl)) rfl
theorem wt1_225 : (Jvm.Cond.methodLink "FlockCountsLaw" (45 : Nat) ({ cls := "FlockCounts", name := "set", desc := "(III)I" } : Jvm.MethodName)) ∈ wsL := wsL_t (tb_in1 (List.mem_of_getElem? (i := 225) rfl)) rfl
theorem wt1_226 : (Jvm.Cond.instanceMethod ({ cls := "FlockCounts", name := "set", desc := "(III)I" } : Jvm.MethodName)) ∈ wsL := wsL_t (tb_in1 (List.mem_of_getElem? (i := 226) rfl)) rfl
theorem wt1_227 : (Jvm.Cond.selects "FlockCounts" ({ cls := "FlockCounts", name := "set", desc := "(III)I" } : Jvm.MethodName) ({ cls := "FlockCounts", name := "set", desc := "(III)I" } : Jvm.MethodName)) ∈ wsL := wsL_t (tb_in1 (List.mem_of_getElem? (i := 227) rfl)) rfl
theorem wt1_228 : (Jvm.Cond.code ({ cls := "FlockCounts", name := "set", desc := "(III)I" } : Jvm.MethodName) prog_1_method_9_code (5 : Nat) (Option.some Jvm.ClassFile.FieldType.int)) ∈ wsL := wsL_t (tb_in1 (List.mem_of_getElem? (i := 228) rfl)) rfl
theorem wt1_229 : (Jvm.Cond.methodLink "FlockCountsLaw" (49 : Nat) ({ cls := "FlockCounts", name := "turn", desc := "(II)I" } : Jvm.MethodName)) ∈ wsL := wsL_t (tb_in1 (List.mem_of_getElem? (i := 229) rfl)) rfl
theorem wt1_230 : (Jvm.Cond.instanceMethod ({ cls := "FlockCounts", name := "turn", desc := "(II)I" } : Jvm.MethodName)) ∈ wsL := wsL_t (tb_in1 (List.mem_of_getElem? (i := 230) rfl)) rfl
theorem wt1_231 : (Jvm.Cond.selects "FlockCounts" ({ cls := "FlockCounts", name := "turn", desc := "(II)I" } : Jvm.MethodName) ({ cls := "FlockCounts", name := "turn", desc := "(II)I" } : Jvm.MethodName)) ∈ wsL := wsL_t (tb_in1 (List.mem_of_getElem? (i := 231) rfl)) rfl
theorem wt1_232 : (Jvm.Cond.code ({ cls := "FlockCounts", name := "turn", desc := "(II)I" } : Jvm.MethodName) prog_1_method_10_code (4 : Nat) (Option.some Jvm.ClassFile.FieldType.int)) ∈ wsL := wsL_t (tb_in1 (List.mem_of_getElem? (i := 232) rfl)) rfl
theorem wt1_233 : (Jvm.Cond.methodLink "FlockCountsLaw" (53 : Nat) ({ cls := "FlockCounts", name := "as", desc := "(II)I" } : Jvm.MethodName)) ∈ wsL := wsL_t (tb_in1 (List.mem_of_getElem? (i := 233) rfl)) rfl
theorem wt1_234 : (Jvm.Cond.instanceMethod ({ cls := "FlockCounts", name := "as", desc := "(II)I" } : Jvm.MethodName)) ∈ wsL := wsL_t (tb_in1 (List.mem_of_getElem? (i := 234) rfl)) rfl
theorem wt1_235 : (Jvm.Cond.selects "FlockCounts" ({ cls := "FlockCounts", name := "as", desc := "(II)I" } : Jvm.MethodName) ({ cls := "FlockCounts", name := "as", desc := "(II)I" } : Jvm.MethodName)) ∈ wsL := wsL_t (tb_in1 (List.mem_of_getElem? (i := 235) rfl)) rfl
theorem wt1_236 : (Jvm.Cond.code ({ cls := "FlockCounts", name := "as", desc := "(II)I" } : Jvm.MethodName) prog_1_method_11_code (3 : Nat) (Option.some Jvm.ClassFile.FieldType.int)) ∈ wsL := wsL_t (tb_in1 (List.mem_of_getElem? (i := 236) rfl)) rfl
theorem wt1_237 : (Jvm.Cond.methodLink "FlockCounts" (114 : Nat) ({ cls := "FlockCounts$Kinds", name := "isOf", desc := "(II)Z" } : Jvm.MethodName)) ∈ wsL := wsL_t (tb_in1 (List.mem_of_getElem? (i := 237) rfl)) rfl
theorem wt1_238 : (Jvm.Cond.static ({ cls := "FlockCounts$Kinds", name := "isOf", desc := "(II)Z" } : Jvm.MethodName)) ∈ wsL := wsL_t (tb_in1 (List.mem_of_getElem? (i := 238) rfl)) rfl
theorem wt1_239 : (Jvm.Cond.code ({ cls := "FlockCounts$Kinds", name := "isOf", desc := "(II)Z" } : Jvm.MethodName) prog_3_method_6_code (4 : Nat) (Option.some Jvm.ClassFile.FieldType.boolean)) ∈ wsL := wsL_t (tb_in1 (List.mem_of_getElem? (i := 239) rfl)) rfl
theorem wt2_0 : (Jvm.Cond.fieldLink "FlockCounts$Kinds" (32 : Nat) "FlockCounts$Kinds" "ABOVE" "[I") ∈ wsL := wsL_t (tb_in2 (List.mem_of_getElem? (i := 0) rfl)) rfl
theorem wt2_2 : (Jvm.Cond.constant "FlockCounts" (118 : Nat) (-1000000003 : Int32)) ∈ wsL := wsL_t (tb_in2 (List.mem_of_getElem? (i := 2) rfl)) rfl
theorem wt2_3 : (Jvm.Cond.methodLink "FlockCountsLaw" (57 : Nat) ({ cls := "FlockCounts", name := "counts", desc := "(II)I" } : Jvm.MethodName)) ∈ wsL := wsL_t (tb_in2 (List.mem_of_getElem? (i := 3) rfl)) rfl
theorem wt2_4 : (Jvm.Cond.instanceMethod ({ cls := "FlockCounts", name := "counts", desc := "(II)I" } : Jvm.MethodName)) ∈ wsL := wsL_t (tb_in2 (List.mem_of_getElem? (i := 4) rfl)) rfl
theorem wt2_5 : (Jvm.Cond.selects "FlockCounts" ({ cls := "FlockCounts", name := "counts", desc := "(II)I" } : Jvm.MethodName) ({ cls := "FlockCounts", name := "counts", desc := "(II)I" } : Jvm.MethodName)) ∈ wsL := wsL_t (tb_in2 (List.mem_of_getElem? (i := 5) rfl)) rfl
theorem wt2_6 : (Jvm.Cond.code ({ cls := "FlockCounts", name := "counts", desc := "(II)I" } : Jvm.MethodName) prog_1_method_12_code (3 : Nat) (Option.some Jvm.ClassFile.FieldType.int)) ∈ wsL := wsL_t (tb_in2 (List.mem_of_getElem? (i := 6) rfl)) rfl
theorem wt2_7 : (Jvm.Cond.methodLink "FlockCounts" (122 : Nat) ({ cls := "FlockCounts$Kinds", name := "unlike", desc := "(II)I" } : Jvm.MethodName)) ∈ wsL := wsL_t (tb_in2 (List.mem_of_getElem? (i := 7) rfl)) rfl
theorem wt2_8 : (Jvm.Cond.static ({ cls := "FlockCounts$Kinds", name := "unlike", desc := "(II)I" } : Jvm.MethodName)) ∈ wsL := wsL_t (tb_in2 (List.mem_of_getElem? (i := 8) rfl)) rfl
theorem wt2_9 : (Jvm.Cond.code ({ cls := "FlockCounts$Kinds", name := "unlike", desc := "(II)I" } : Jvm.MethodName) prog_3_method_7_code (2 : Nat) (Option.some Jvm.ClassFile.FieldType.int)) ∈ wsL := wsL_t (tb_in2 (List.mem_of_getElem? (i := 9) rfl)) rfl
theorem wt2_10 : (Jvm.Cond.methodLink "FlockCounts$Kinds" (35 : Nat) ({ cls := "java/lang/Integer", name := "bitCount", desc := "(I)I" } : Jvm.MethodName)) ∈ wsL := wsL_t (tb_in2 (List.mem_of_getElem? (i := 10) rfl)) rfl
theorem wt2_11 : (Jvm.Cond.static ({ cls := "java/lang/Integer", name := "bitCount", desc := "(I)I" } : Jvm.MethodName)) ∈ wsL := wsL_t (tb_in2 (List.mem_of_getElem? (i := 11) rfl)) rfl
theorem wt2_12 : (Jvm.Cond.code ({ cls := "java/lang/Integer", name := "bitCount", desc := "(I)I" } : Jvm.MethodName) prog_8_method_49_code (1 : Nat) (Option.some Jvm.ClassFile.FieldType.int)) ∈ wsL := wsL_t (tb_in2 (List.mem_of_getElem? (i := 12) rfl)) rfl
theorem wt2_13 : (Jvm.Cond.constant "java/lang/Integer" (265 : Nat) (1431655765 : Int32)) ∈ wsL := wsL_t (tb_in2 (List.mem_of_getElem? (i := 13) rfl)) rfl
theorem wt2_14 : (Jvm.Cond.constant "java/lang/Integer" (266 : Nat) (858993459 : Int32)) ∈ wsL := wsL_t (tb_in2 (List.mem_of_getElem? (i := 14) rfl)) rfl
theorem wt2_15 : (Jvm.Cond.constant "java/lang/Integer" (267 : Nat) (252645135 : Int32)) ∈ wsL := wsL_t (tb_in2 (List.mem_of_getElem? (i := 15) rfl)) rfl
theorem wt2_16 : (Jvm.Cond.methodLink "FlockCounts" (128 : Nat) ({ cls := "FlockCounts$Kinds", name := "takesOff", desc := "(IIII)I" } : Jvm.MethodName)) ∈ wsL := wsL_t (tb_in2 (List.mem_of_getElem? (i := 16) rfl)) rfl
theorem wt2_17 : (Jvm.Cond.static ({ cls := "FlockCounts$Kinds", name := "takesOff", desc := "(IIII)I" } : Jvm.MethodName)) ∈ wsL := wsL_t (tb_in2 (List.mem_of_getElem? (i := 17) rfl)) rfl
theorem wt2_18 : (Jvm.Cond.code ({ cls := "FlockCounts$Kinds", name := "takesOff", desc := "(IIII)I" } : Jvm.MethodName) prog_3_method_8_code (8 : Nat) (Option.some Jvm.ClassFile.FieldType.int)) ∈ wsL := wsL_t (tb_in2 (List.mem_of_getElem? (i := 18) rfl)) rfl
theorem wt2_19 : (Jvm.Cond.methodLink "FlockCounts$Kinds" (41 : Nat) ({ cls := "java/lang/Math", name := "max", desc := "(II)I" } : Jvm.MethodName)) ∈ wsL := wsL_t (tb_in2 (List.mem_of_getElem? (i := 19) rfl)) rfl
theorem wt2_20 : (Jvm.Cond.static ({ cls := "java/lang/Math", name := "max", desc := "(II)I" } : Jvm.MethodName)) ∈ wsL := wsL_t (tb_in2 (List.mem_of_getElem? (i := 20) rfl)) rfl
theorem wt2_21 : (Jvm.Cond.code ({ cls := "java/lang/Math", name := "max", desc := "(II)I" } : Jvm.MethodName) prog_9_method_65_code (2 : Nat) (Option.some Jvm.ClassFile.FieldType.int)) ∈ wsL := wsL_t (tb_in2 (List.mem_of_getElem? (i := 21) rfl)) rfl
theorem wt2_22 : (Jvm.Cond.methodLink "FlockCountsLaw" (61 : Nat) ({ cls := "FlockCounts", name := "minutes", desc := "(I)I" } : Jvm.MethodName)) ∈ wsL := wsL_t (tb_in2 (List.mem_of_getElem? (i := 22) rfl)) rfl
theorem wt2_23 : (Jvm.Cond.instanceMethod ({ cls := "FlockCounts", name := "minutes", desc := "(I)I" } : Jvm.MethodName)) ∈ wsL := wsL_t (tb_in2 (List.mem_of_getElem? (i := 23) rfl)) rfl
theorem wt2_24 : (Jvm.Cond.selects "FlockCounts" ({ cls := "FlockCounts", name := "minutes", desc := "(I)I" } : Jvm.MethodName) ({ cls := "FlockCounts", name := "minutes", desc := "(I)I" } : Jvm.MethodName)) ∈ wsL := wsL_t (tb_in2 (List.mem_of_getElem? (i := 24) rfl)) rfl
theorem wt2_25 : (Jvm.Cond.code ({ cls := "FlockCounts", name := "minutes", desc := "(I)I" } : Jvm.MethodName) prog_1_method_13_code (2 : Nat) (Option.some Jvm.ClassFile.FieldType.int)) ∈ wsL := wsL_t (tb_in2 (List.mem_of_getElem? (i := 25) rfl)) rfl
theorem wt2_26 : (Jvm.Cond.constant "FlockCounts" (132 : Nat) (99999 : Int32)) ∈ wsL := wsL_t (tb_in2 (List.mem_of_getElem? (i := 26) rfl)) rfl
theorem wt2_27 : (Jvm.Cond.constant "FlockCounts" (133 : Nat) (-1000000005 : Int32)) ∈ wsL := wsL_t (tb_in2 (List.mem_of_getElem? (i := 27) rfl)) rfl
theorem wt2_28 : (Jvm.Cond.methodLink "FlockCounts" (134 : Nat) ({ cls := "FlockCounts$Fold", name := "play", desc := "(I)V" } : Jvm.MethodName)) ∈ wsL := wsL_t (tb_in2 (List.mem_of_getElem? (i := 28) rfl)) rfl
theorem wt2_29 : (Jvm.Cond.instanceMethod ({ cls := "FlockCounts$Fold", name := "play", desc := "(I)V" } : Jvm.MethodName)) ∈ wsL := wsL_t (tb_in2 (List.mem_of_getElem? (i := 29) rfl)) rfl
theorem wt2_30 : (Jvm.Cond.selects "FlockCounts$Fold" ({ cls := "FlockCounts$Fold", name := "play", desc := "(I)V" } : Jvm.MethodName) ({ cls := "FlockCounts$Fold", name := "play", desc := "(I)V" } : Jvm.MethodName)) ∈ wsL := wsL_t (tb_in2 (List.mem_of_getElem? (i := 30) rfl)) rfl
theorem wt2_31 : (Jvm.Cond.code ({ cls := "FlockCounts$Fold", name := "play", desc := "(I)V" } : Jvm.MethodName) prog_2_method_21_code (3 : Nat) (Option.none : Option Jvm.ClassFile.FieldType)) ∈ wsL := wsL_t (tb_in2 (List.mem_of_getElem? (i := 31) rfl)) rfl
theorem wt2_32 : (Jvm.Cond.methodLink "FlockCounts$Fold" (59 : Nat) ({ cls := "FlockCounts$Fold", name := "playMinute", desc := "()V" } : Jvm.MethodName)) ∈ wsL := wsL_t (tb_in2 (List.mem_of_getElem? (i := 32) rfl)) rfl
theorem wt2_34 : (Jvm.Cond.instanceMethod ({ cls := "FlockCounts$Fold", name := "playMinute", desc := "()V" } : Jvm.MethodName)) ∈ wsL := wsL_t (tb_in2 (List.mem_of_getElem? (i := 34) rfl)) rfl
theorem wt2_35 : (Jvm.Cond.code ({ cls := "FlockCounts$Fold", name := "playMinute", desc := "()V" } : Jvm.MethodName) prog_2_method_22_code (1 : Nat) (Option.none : Option Jvm.ClassFile.FieldType)) ∈ wsL := wsL_t (tb_in2 (List.mem_of_getElem? (i := 35) rfl)) rfl
theorem wt2_36 : (Jvm.Cond.methodLink "FlockCounts$Fold" (62 : Nat) ({ cls := "FlockCounts$Fold", name := "hasMan", desc := "(I)Z" } : Jvm.MethodName)) ∈ wsL := wsL_t (tb_in2 (List.mem_of_getElem? (i := 36) rfl)) rfl
theorem wt2_37 : (Jvm.Cond.methodLink "FlockCounts$Fold" (56 : Nat) ({ cls := "FlockCounts$Fold", name := "canPass", desc := "(I)Z" } : Jvm.MethodName)) ∈ wsL := wsL_t (tb_in2 (List.mem_of_getElem? (i := 37) rfl)) rfl
theorem wt2_38 : (Jvm.Cond.instanceMethod ({ cls := "FlockCounts$Fold", name := "canPass", desc := "(I)Z" } : Jvm.MethodName)) ∈ wsL := wsL_t (tb_in2 (List.mem_of_getElem? (i := 38) rfl)) rfl
theorem wt2_39 : (Jvm.Cond.selects "FlockCounts$Fold" ({ cls := "FlockCounts$Fold", name := "canPass", desc := "(I)Z" } : Jvm.MethodName) ({ cls := "FlockCounts$Fold", name := "canPass", desc := "(I)Z" } : Jvm.MethodName)) ∈ wsL := wsL_t (tb_in2 (List.mem_of_getElem? (i := 39) rfl)) rfl
theorem wt2_40 : (Jvm.Cond.code ({ cls := "FlockCounts$Fold", name := "canPass", desc := "(I)Z" } : Jvm.MethodName) prog_2_method_14_code (2 : Nat) (Option.some Jvm.ClassFile.FieldType.boolean)) ∈ wsL := wsL_t (tb_in2 (List.mem_of_getElem? (i := 40) rfl)) rfl
theorem wt2_41 : (Jvm.Cond.methodLink "FlockCounts$Fold" (65 : Nat) ({ cls := "FlockCounts$Fold", name := "pass", desc := "(I)V" } : Jvm.MethodName)) ∈ wsL := wsL_t (tb_in2 (List.mem_of_getElem? (i := 41) rfl)) rfl
theorem wt2_43 : (Jvm.Cond.instanceMethod ({ cls := "FlockCounts$Fold", name := "pass", desc := "(I)V" } : Jvm.MethodName)) ∈ wsL := wsL_t (tb_in2 (List.mem_of_getElem? (i := 43) rfl)) rfl
theorem wt2_44 : (Jvm.Cond.code ({ cls := "FlockCounts$Fold", name := "pass", desc := "(I)V" } : Jvm.MethodName) prog_2_method_23_code (6 : Nat) (Option.none : Option Jvm.ClassFile.FieldType)) ∈ wsL := wsL_t (tb_in2 (List.mem_of_getElem? (i := 44) rfl)) rfl
theorem wt2_45 : (Jvm.Cond.methodLink "FlockCounts$Fold" (72 : Nat) ({ cls := "FlockCounts$Kinds", name := "unlike", desc := "(II)I" } : Jvm.MethodName)) ∈ wsL := wsL_t (tb_in2 (List.mem_of_getElem? (i := 45) rfl)) rfl
theorem wt2_46 : (Jvm.Cond.methodLink "FlockCounts$Fold" (52 : Nat) ({ cls := "FlockCounts$Fold", name := "isAsleep", desc := "(I)Z" } : Jvm.MethodName)) ∈ wsL := wsL_t (tb_in2 (List.mem_of_getElem? (i := 46) rfl)) rfl
theorem wt2_47 : (Jvm.Cond.methodLink "FlockCounts$Fold" (78 : Nat) ({ cls := "FlockCounts$Kinds", name := "takesOff", desc := "(IIII)I" } : Jvm.MethodName)) ∈ wsL := wsL_t (tb_in2 (List.mem_of_getElem? (i := 47) rfl)) rfl
theorem wt2_48 : (Jvm.Cond.methodLink "FlockCounts$Fold" (82 : Nat) ({ cls := "java/lang/Math", name := "max", desc := "(II)I" } : Jvm.MethodName)) ∈ wsL := wsL_t (tb_in2 (List.mem_of_getElem? (i := 48) rfl)) rfl
theorem wt2_49 : (Jvm.Cond.methodLink "FlockCounts$Fold" (87 : Nat) ({ cls := "java/lang/Math", name := "min", desc := "(II)I" } : Jvm.MethodName)) ∈ wsL := wsL_t (tb_in2 (List.mem_of_getElem? (i := 49) rfl)) rfl
theorem wt2_50 : (Jvm.Cond.static ({ cls := "java/lang/Math", name := "min", desc := "(II)I" } : Jvm.MethodName)) ∈ wsL := wsL_t (tb_in2 (List.mem_of_getElem? (i := 50) rfl)) rfl
theorem wt2_51 : (Jvm.Cond.code ({ cls := "java/lang/Math", name := "min", desc := "(II)I" } : Jvm.MethodName) prog_9_method_69_code (2 : Nat) (Option.some Jvm.ClassFile.FieldType.int)) ∈ wsL := wsL_t (tb_in2 (List.mem_of_getElem? (i := 51) rfl)) rfl
theorem wt2_52 : (Jvm.Cond.methodLink "FlockCounts$Fold" (90 : Nat) ({ cls := "FlockCounts$Kinds", name := "tiresBy", desc := "(I)I" } : Jvm.MethodName)) ∈ wsL := wsL_t (tb_in2 (List.mem_of_getElem? (i := 52) rfl)) rfl
theorem wt2_53 : (Jvm.Cond.methodLink "FlockCounts$Fold" (69 : Nat) ({ cls := "FlockCounts$Fold", name := "stayAlone", desc := "()V" } : Jvm.MethodName)) ∈ wsL := wsL_t (tb_in2 (List.mem_of_getElem? (i := 53) rfl)) rfl
theorem wt2_55 : (Jvm.Cond.instanceMethod ({ cls := "FlockCounts$Fold", name := "stayAlone", desc := "()V" } : Jvm.MethodName)) ∈ wsL := wsL_t (tb_in2 (List.mem_of_getElem? (i := 55) rfl)) rfl
theorem wt2_56 : (Jvm.Cond.code ({ cls := "FlockCounts$Fold", name := "stayAlone", desc := "()V" } : Jvm.MethodName) prog_2_method_24_code (2 : Nat) (Option.none : Option Jvm.ClassFile.FieldType)) ∈ wsL := wsL_t (tb_in2 (List.mem_of_getElem? (i := 56) rfl)) rfl
theorem wt2_57 : (Jvm.Cond.methodLink "FlockCounts$Fold" (94 : Nat) ({ cls := "FlockCounts$Kinds", name := "wakesBy", desc := "(I)I" } : Jvm.MethodName)) ∈ wsL := wsL_t (tb_in2 (List.mem_of_getElem? (i := 57) rfl)) rfl
theorem wt2_58 : (Jvm.Cond.methodLink "FlockCounts" (138 : Nat) ({ cls := "FlockCounts$Fold", name := "sleepers", desc := "()I" } : Jvm.MethodName)) ∈ wsL := wsL_t (tb_in2 (List.mem_of_getElem? (i := 58) rfl)) rfl
theorem wt2_59 : (Jvm.Cond.instanceMethod ({ cls := "FlockCounts$Fold", name := "sleepers", desc := "()I" } : Jvm.MethodName)) ∈ wsL := wsL_t (tb_in2 (List.mem_of_getElem? (i := 59) rfl)) rfl
theorem wt2_60 : (Jvm.Cond.selects "FlockCounts$Fold" ({ cls := "FlockCounts$Fold", name := "sleepers", desc := "()I" } : Jvm.MethodName) ({ cls := "FlockCounts$Fold", name := "sleepers", desc := "()I" } : Jvm.MethodName)) ∈ wsL := wsL_t (tb_in2 (List.mem_of_getElem? (i := 60) rfl)) rfl
theorem wt2_61 : (Jvm.Cond.code ({ cls := "FlockCounts$Fold", name := "sleepers", desc := "()I" } : Jvm.MethodName) prog_2_method_15_code (3 : Nat) (Option.some Jvm.ClassFile.FieldType.int)) ∈ wsL := wsL_t (tb_in2 (List.mem_of_getElem? (i := 61) rfl)) rfl
theorem wt2_62 : (Jvm.Cond.methodLink "FlockCountsLaw" (65 : Nat) ({ cls := "FlockCounts", name := "now", desc := "(I)I" } : Jvm.MethodName)) ∈ wsL := wsL_t (tb_in2 (List.mem_of_getElem? (i := 62) rfl)) rfl
theorem wt2_63 : (Jvm.Cond.instanceMethod ({ cls := "FlockCounts", name := "now", desc := "(I)I" } : Jvm.MethodName)) ∈ wsL := wsL_t (tb_in2 (List.mem_of_getElem? (i := 63) rfl)) rfl
theorem wt2_64 : (Jvm.Cond.selects "FlockCounts" ({ cls := "FlockCounts", name := "now", desc := "(I)I" } : Jvm.MethodName) ({ cls := "FlockCounts", name := "now", desc := "(I)I" } : Jvm.MethodName)) ∈ wsL := wsL_t (tb_in2 (List.mem_of_getElem? (i := 64) rfl)) rfl
theorem wt2_65 : (Jvm.Cond.code ({ cls := "FlockCounts", name := "now", desc := "(I)I" } : Jvm.MethodName) prog_1_method_14_code (2 : Nat) (Option.some Jvm.ClassFile.FieldType.int)) ∈ wsL := wsL_t (tb_in2 (List.mem_of_getElem? (i := 65) rfl)) rfl
theorem wt2_66 : (Jvm.Cond.methodLink "FlockCounts" (142 : Nat) ({ cls := "FlockCounts$Fold", name := "wantsOfAll", desc := "()I" } : Jvm.MethodName)) ∈ wsL := wsL_t (tb_in2 (List.mem_of_getElem? (i := 66) rfl)) rfl
theorem wt2_67 : (Jvm.Cond.instanceMethod ({ cls := "FlockCounts$Fold", name := "wantsOfAll", desc := "()I" } : Jvm.MethodName)) ∈ wsL := wsL_t (tb_in2 (List.mem_of_getElem? (i := 67) rfl)) rfl
theorem wt2_68 : (Jvm.Cond.selects "FlockCounts$Fold" ({ cls := "FlockCounts$Fold", name := "wantsOfAll", desc := "()I" } : Jvm.MethodName) ({ cls := "FlockCounts$Fold", name := "wantsOfAll", desc := "()I" } : Jvm.MethodName)) ∈ wsL := wsL_t (tb_in2 (List.mem_of_getElem? (i := 68) rfl)) rfl
theorem wt2_69 : (Jvm.Cond.code ({ cls := "FlockCounts$Fold", name := "wantsOfAll", desc := "()I" } : Jvm.MethodName) prog_2_method_17_code (3 : Nat) (Option.some Jvm.ClassFile.FieldType.int)) ∈ wsL := wsL_t (tb_in2 (List.mem_of_getElem? (i := 69) rfl)) rfl
theorem wt2_70 : (Jvm.Cond.methodLink "FlockCounts" (145 : Nat) ({ cls := "FlockCounts$Fold", name := "wearWithout", desc := "(I)I" } : Jvm.MethodName)) ∈ wsL := wsL_t (tb_in2 (List.mem_of_getElem? (i := 70) rfl)) rfl
theorem wt2_71 : (Jvm.Cond.instanceMethod ({ cls := "FlockCounts$Fold", name := "wearWithout", desc := "(I)I" } : Jvm.MethodName)) ∈ wsL := wsL_t (tb_in2 (List.mem_of_getElem? (i := 71) rfl)) rfl
theorem wt2_72 : (Jvm.Cond.selects "FlockCounts$Fold" ({ cls := "FlockCounts$Fold", name := "wearWithout", desc := "(I)I" } : Jvm.MethodName) ({ cls := "FlockCounts$Fold", name := "wearWithout", desc := "(I)I" } : Jvm.MethodName)) ∈ wsL := wsL_t (tb_in2 (List.mem_of_getElem? (i := 72) rfl)) rfl
theorem wt2_73 : (Jvm.Cond.code ({ cls := "FlockCounts$Fold", name := "wearWithout", desc := "(I)I" } : Jvm.MethodName) prog_2_method_19_code (4 : Nat) (Option.some Jvm.ClassFile.FieldType.int)) ∈ wsL := wsL_t (tb_in2 (List.mem_of_getElem? (i := 73) rfl)) rfl
theorem wt2_74 : (Jvm.Cond.methodLink "FlockCounts$Fold" (48 : Nat) ({ cls := "FlockCounts$Fold", name := "isIn", desc := "(II)Z" } : Jvm.MethodName)) ∈ wsL := wsL_t (tb_in2 (List.mem_of_getElem? (i := 74) rfl)) rfl
theorem wt2_75 : (Jvm.Cond.static ({ cls := "FlockCounts$Fold", name := "isIn", desc := "(II)Z" } : Jvm.MethodName)) ∈ wsL := wsL_t (tb_in2 (List.mem_of_getElem? (i := 75) rfl)) rfl
theorem wt2_76 : (Jvm.Cond.code ({ cls := "FlockCounts$Fold", name := "isIn", desc := "(II)Z" } : Jvm.MethodName) prog_2_method_12_code (2 : Nat) (Option.some Jvm.ClassFile.FieldType.boolean)) ∈ wsL := wsL_t (tb_in2 (List.mem_of_getElem? (i := 76) rfl)) rfl
theorem wt2_77 : (Jvm.Cond.methodLink "FlockCounts" (148 : Nat) ({ cls := "FlockCounts$Fold", name := "passers", desc := "()I" } : Jvm.MethodName)) ∈ wsL := wsL_t (tb_in2 (List.mem_of_getElem? (i := 77) rfl)) rfl
theorem wt2_78 : (Jvm.Cond.instanceMethod ({ cls := "FlockCounts$Fold", name := "passers", desc := "()I" } : Jvm.MethodName)) ∈ wsL := wsL_t (tb_in2 (List.mem_of_getElem? (i := 78) rfl)) rfl
theorem wt2_79 : (Jvm.Cond.selects "FlockCounts$Fold" ({ cls := "FlockCounts$Fold", name := "passers", desc := "()I" } : Jvm.MethodName) ({ cls := "FlockCounts$Fold", name := "passers", desc := "()I" } : Jvm.MethodName)) ∈ wsL := wsL_t (tb_in2 (List.mem_of_getElem? (i := 79) rfl)) rfl
theorem wt2_80 : (Jvm.Cond.code ({ cls := "FlockCounts$Fold", name := "passers", desc := "()I" } : Jvm.MethodName) prog_2_method_16_code (3 : Nat) (Option.some Jvm.ClassFile.FieldType.int)) ∈ wsL := wsL_t (tb_in2 (List.mem_of_getElem? (i := 80) rfl)) rfl
theorem wt2_81 : (Jvm.Cond.methodLink "FlockCountsLaw" (69 : Nat) ({ cls := "FlockCounts", name := "on", desc := "(III)I" } : Jvm.MethodName)) ∈ wsL := wsL_t (tb_in2 (List.mem_of_getElem? (i := 81) rfl)) rfl
theorem wt2_82 : (Jvm.Cond.instanceMethod ({ cls := "FlockCounts", name := "on", desc := "(III)I" } : Jvm.MethodName)) ∈ wsL := wsL_t (tb_in2 (List.mem_of_getElem? (i := 82) rfl)) rfl
theorem wt2_83 : (Jvm.Cond.selects "FlockCounts" ({ cls := "FlockCounts", name := "on", desc := "(III)I" } : Jvm.MethodName) ({ cls := "FlockCounts", name := "on", desc := "(III)I" } : Jvm.MethodName)) ∈ wsL := wsL_t (tb_in2 (List.mem_of_getElem? (i := 83) rfl)) rfl
theorem wt2_84 : (Jvm.Cond.code ({ cls := "FlockCounts", name := "on", desc := "(III)I" } : Jvm.MethodName) prog_1_method_15_code (4 : Nat) (Option.some Jvm.ClassFile.FieldType.int)) ∈ wsL := wsL_t (tb_in2 (List.mem_of_getElem? (i := 84) rfl)) rfl
theorem wt2_85 : (Jvm.Cond.methodLink "FlockCounts" (151 : Nat) ({ cls := "FlockCounts", name := "startTrial", desc := "()V" } : Jvm.MethodName)) ∈ wsL := wsL_t (tb_in2 (List.mem_of_getElem? (i := 85) rfl)) rfl
theorem wt2_87 : (Jvm.Cond.instanceMethod ({ cls := "FlockCounts", name := "startTrial", desc := "()V" } : Jvm.MethodName)) ∈ wsL := wsL_t (tb_in2 (List.mem_of_getElem? (i := 87) rfl)) rfl
theorem wt2_88 : (Jvm.Cond.code ({ cls := "FlockCounts", name := "startTrial", desc := "()V" } : Jvm.MethodName) prog_1_method_49_code (1 : Nat) (Option.none : Option Jvm.ClassFile.FieldType)) ∈ wsL := wsL_t (tb_in2 (List.mem_of_getElem? (i := 88) rfl)) rfl
theorem wt2_89 : (Jvm.Cond.methodLink "FlockCounts" (197 : Nat) ({ cls := "FlockCounts$Fold", name := "becomes", desc := "(LFlockCounts$Fold;)V" } : Jvm.MethodName)) ∈ wsL := wsL_t (tb_in2 (List.mem_of_getElem? (i := 89) rfl)) rfl
theorem wt2_90 : (Jvm.Cond.instanceMethod ({ cls := "FlockCounts$Fold", name := "becomes", desc := "(LFlockCounts$Fold;)V" } : Jvm.MethodName)) ∈ wsL := wsL_t (tb_in2 (List.mem_of_getElem? (i := 90) rfl)) rfl
theorem wt2_91 : (Jvm.Cond.selects "FlockCounts$Fold" ({ cls := "FlockCounts$Fold", name := "becomes", desc := "(LFlockCounts$Fold;)V" } : Jvm.MethodName) ({ cls := "FlockCounts$Fold", name := "becomes", desc := "(LFlockCounts$Fold;)V" } : Jvm.MethodName)) ∈ wsL := wsL_t (tb_in2 (List.mem_of_getElem? (i := 91) rfl)) rfl
theorem wt2_92 : (Jvm.Cond.code ({ cls := "FlockCounts$Fold", name := "becomes", desc := "(LFlockCounts$Fold;)V" } : Jvm.MethodName) prog_2_method_2_code (3 : Nat) (Option.none : Option Jvm.ClassFile.FieldType)) ∈ wsL := wsL_t (tb_in2 (List.mem_of_getElem? (i := 92) rfl)) rfl
theorem wt2_93 : (Jvm.Cond.methodLink "FlockCountsLaw" (73 : Nat) ({ cls := "FlockCounts", name := "worn", desc := "(II)I" } : Jvm.MethodName)) ∈ wsL := wsL_t (tb_in2 (List.mem_of_getElem? (i := 93) rfl)) rfl
theorem wt2_94 : (Jvm.Cond.instanceMethod ({ cls := "FlockCounts", name := "worn", desc := "(II)I" } : Jvm.MethodName)) ∈ wsL := wsL_t (tb_in2 (List.mem_of_getElem? (i := 94) rfl)) rfl
theorem wt2_95 : (Jvm.Cond.selects "FlockCounts" ({ cls := "FlockCounts", name := "worn", desc := "(II)I" } : Jvm.MethodName) ({ cls := "FlockCounts", name := "worn", desc := "(II)I" } : Jvm.MethodName)) ∈ wsL := wsL_t (tb_in2 (List.mem_of_getElem? (i := 95) rfl)) rfl
theorem wt2_96 : (Jvm.Cond.code ({ cls := "FlockCounts", name := "worn", desc := "(II)I" } : Jvm.MethodName) prog_1_method_16_code (3 : Nat) (Option.some Jvm.ClassFile.FieldType.int)) ∈ wsL := wsL_t (tb_in2 (List.mem_of_getElem? (i := 96) rfl)) rfl
theorem wt2_97 : (Jvm.Cond.methodLink "FlockCountsLaw" (77 : Nat) ({ cls := "FlockCounts", name := "sleeps", desc := "(I)I" } : Jvm.MethodName)) ∈ wsL := wsL_t (tb_in2 (List.mem_of_getElem? (i := 97) rfl)) rfl
theorem wt2_98 : (Jvm.Cond.instanceMethod ({ cls := "FlockCounts", name := "sleeps", desc := "(I)I" } : Jvm.MethodName)) ∈ wsL := wsL_t (tb_in2 (List.mem_of_getElem? (i := 98) rfl)) rfl
theorem wt2_99 : (Jvm.Cond.selects "FlockCounts" ({ cls := "FlockCounts", name := "sleeps", desc := "(I)I" } : Jvm.MethodName) ({ cls := "FlockCounts", name := "sleeps", desc := "(I)I" } : Jvm.MethodName)) ∈ wsL := wsL_t (tb_in2 (List.mem_of_getElem? (i := 99) rfl)) rfl
theorem wt2_100 : (Jvm.Cond.code ({ cls := "FlockCounts", name := "sleeps", desc := "(I)I" } : Jvm.MethodName) prog_1_method_17_code (2 : Nat) (Option.some Jvm.ClassFile.FieldType.int)) ∈ wsL := wsL_t (tb_in2 (List.mem_of_getElem? (i := 100) rfl)) rfl
theorem wt2_101 : (Jvm.Cond.methodLink "FlockCounts" (154 : Nat) ({ cls := "FlockCounts$Fold", name := "playTillAsleep", desc := "(II)I" } : Jvm.MethodName)) ∈ wsL := wsL_t (tb_in2 (List.mem_of_getElem? (i := 101) rfl)) rfl
theorem wt2_102 : (Jvm.Cond.instanceMethod ({ cls := "FlockCounts$Fold", name := "playTillAsleep", desc := "(II)I" } : Jvm.MethodName)) ∈ wsL := wsL_t (tb_in2 (List.mem_of_getElem? (i := 102) rfl)) rfl
theorem wt2_103 : (Jvm.Cond.selects "FlockCounts$Fold" ({ cls := "FlockCounts$Fold", name := "playTillAsleep", desc := "(II)I" } : Jvm.MethodName) ({ cls := "FlockCounts$Fold", name := "playTillAsleep", desc := "(II)I" } : Jvm.MethodName)) ∈ wsL := wsL_t (tb_in2 (List.mem_of_getElem? (i := 103) rfl)) rfl
theorem wt2_104 : (Jvm.Cond.code ({ cls := "FlockCounts$Fold", name := "playTillAsleep", desc := "(II)I" } : Jvm.MethodName) prog_2_method_26_code (4 : Nat) (Option.some Jvm.ClassFile.FieldType.int)) ∈ wsL := wsL_t (tb_in2 (List.mem_of_getElem? (i := 104) rfl)) rfl
theorem wt2_105 : (Jvm.Cond.methodLink "FlockCounts" (157 : Nat) ({ cls := "FlockCounts", name := "withinWait", desc := "(I)I" } : Jvm.MethodName)) ∈ wsL := wsL_t (tb_in2 (List.mem_of_getElem? (i := 105) rfl)) rfl
theorem wt2_107 : (Jvm.Cond.instanceMethod ({ cls := "FlockCounts", name := "withinWait", desc := "(I)I" } : Jvm.MethodName)) ∈ wsL := wsL_t (tb_in2 (List.mem_of_getElem? (i := 107) rfl)) rfl
theorem wt2_108 : (Jvm.Cond.code ({ cls := "FlockCounts", name := "withinWait", desc := "(I)I" } : Jvm.MethodName) prog_1_method_48_code (2 : Nat) (Option.some Jvm.ClassFile.FieldType.int)) ∈ wsL := wsL_t (tb_in2 (List.mem_of_getElem? (i := 108) rfl)) rfl
theorem wt2_109 : (Jvm.Cond.methodLink "FlockCountsLaw" (81 : Nat) ({ cls := "FlockCounts", name := "quiet", desc := "()I" } : Jvm.MethodName)) ∈ wsL := wsL_t (tb_in2 (List.mem_of_getElem? (i := 109) rfl)) rfl
theorem wt2_110 : (Jvm.Cond.instanceMethod ({ cls := "FlockCounts", name := "quiet", desc := "()I" } : Jvm.MethodName)) ∈ wsL := wsL_t (tb_in2 (List.mem_of_getElem? (i := 110) rfl)) rfl
theorem wt2_111 : (Jvm.Cond.selects "FlockCounts" ({ cls := "FlockCounts", name := "quiet", desc := "()I" } : Jvm.MethodName) ({ cls := "FlockCounts", name := "quiet", desc := "()I" } : Jvm.MethodName)) ∈ wsL := wsL_t (tb_in2 (List.mem_of_getElem? (i := 111) rfl)) rfl
theorem wt2_112 : (Jvm.Cond.code ({ cls := "FlockCounts", name := "quiet", desc := "()I" } : Jvm.MethodName) prog_1_method_18_code (1 : Nat) (Option.some Jvm.ClassFile.FieldType.int)) ∈ wsL := wsL_t (tb_in2 (List.mem_of_getElem? (i := 112) rfl)) rfl
theorem wt2_113 : (Jvm.Cond.methodLink "FlockCounts" (160 : Nat) ({ cls := "FlockCounts$Fold", name := "playTillQuiet", desc := "(I)I" } : Jvm.MethodName)) ∈ wsL := wsL_t (tb_in2 (List.mem_of_getElem? (i := 113) rfl)) rfl
theorem wt2_114 : (Jvm.Cond.instanceMethod ({ cls := "FlockCounts$Fold", name := "playTillQuiet", desc := "(I)I" } : Jvm.MethodName)) ∈ wsL := wsL_t (tb_in2 (List.mem_of_getElem? (i := 114) rfl)) rfl
theorem wt2_115 : (Jvm.Cond.selects "FlockCounts$Fold" ({ cls := "FlockCounts$Fold", name := "playTillQuiet", desc := "(I)I" } : Jvm.MethodName) ({ cls := "FlockCounts$Fold", name := "playTillQuiet", desc := "(I)I" } : Jvm.MethodName)) ∈ wsL := wsL_t (tb_in2 (List.mem_of_getElem? (i := 115) rfl)) rfl
theorem wt2_116 : (Jvm.Cond.code ({ cls := "FlockCounts$Fold", name := "playTillQuiet", desc := "(I)I" } : Jvm.MethodName) prog_2_method_25_code (3 : Nat) (Option.some Jvm.ClassFile.FieldType.int)) ∈ wsL := wsL_t (tb_in2 (List.mem_of_getElem? (i := 116) rfl)) rfl
theorem wt2_117 : (Jvm.Cond.methodLink "FlockCounts$Fold" (97 : Nat) ({ cls := "FlockCounts$Fold", name := "isQuiet", desc := "()Z" } : Jvm.MethodName)) ∈ wsL := wsL_t (tb_in2 (List.mem_of_getElem? (i := 117) rfl)) rfl
theorem wt2_118 : (Jvm.Cond.instanceMethod ({ cls := "FlockCounts$Fold", name := "isQuiet", desc := "()Z" } : Jvm.MethodName)) ∈ wsL := wsL_t (tb_in2 (List.mem_of_getElem? (i := 118) rfl)) rfl
theorem wt2_119 : (Jvm.Cond.selects "FlockCounts$Fold" ({ cls := "FlockCounts$Fold", name := "isQuiet", desc := "()Z" } : Jvm.MethodName) ({ cls := "FlockCounts$Fold", name := "isQuiet", desc := "()Z" } : Jvm.MethodName)) ∈ wsL := wsL_t (tb_in2 (List.mem_of_getElem? (i := 119) rfl)) rfl
theorem wt2_120 : (Jvm.Cond.code ({ cls := "FlockCounts$Fold", name := "isQuiet", desc := "()Z" } : Jvm.MethodName) prog_2_method_20_code (2 : Nat) (Option.some Jvm.ClassFile.FieldType.boolean)) ∈ wsL := wsL_t (tb_in2 (List.mem_of_getElem? (i := 120) rfl)) rfl
theorem wt2_121 : (Jvm.Cond.methodLink "FlockCountsLaw" (85 : Nat) ({ cls := "FlockCounts", name := "bare", desc := "(I)I" } : Jvm.MethodName)) ∈ wsL := wsL_t (tb_in2 (List.mem_of_getElem? (i := 121) rfl)) rfl
theorem wt2_122 : (Jvm.Cond.instanceMethod ({ cls := "FlockCounts", name := "bare", desc := "(I)I" } : Jvm.MethodName)) ∈ wsL := wsL_t (tb_in2 (List.mem_of_getElem? (i := 122) rfl)) rfl
theorem wt2_123 : (Jvm.Cond.selects "FlockCounts" ({ cls := "FlockCounts", name := "bare", desc := "(I)I" } : Jvm.MethodName) ({ cls := "FlockCounts", name := "bare", desc := "(I)I" } : Jvm.MethodName)) ∈ wsL := wsL_t (tb_in2 (List.mem_of_getElem? (i := 123) rfl)) rfl
theorem wt2_124 : (Jvm.Cond.code ({ cls := "FlockCounts", name := "bare", desc := "(I)I" } : Jvm.MethodName) prog_1_method_19_code (2 : Nat) (Option.some Jvm.ClassFile.FieldType.int)) ∈ wsL := wsL_t (tb_in2 (List.mem_of_getElem? (i := 124) rfl)) rfl
theorem wt2_125 : (Jvm.Cond.methodLink "FlockCounts" (163 : Nat) ({ cls := "FlockCounts$Fold", name := "playTillBare", desc := "(II)I" } : Jvm.MethodName)) ∈ wsL := wsL_t (tb_in2 (List.mem_of_getElem? (i := 125) rfl)) rfl
theorem wt2_126 : (Jvm.Cond.instanceMethod ({ cls := "FlockCounts$Fold", name := "playTillBare", desc := "(II)I" } : Jvm.MethodName)) ∈ wsL := wsL_t (tb_in2 (List.mem_of_getElem? (i := 126) rfl)) rfl
theorem wt2_127 : (Jvm.Cond.selects "FlockCounts$Fold" ({ cls := "FlockCounts$Fold", name := "playTillBare", desc := "(II)I" } : Jvm.MethodName) ({ cls := "FlockCounts$Fold", name := "playTillBare", desc := "(II)I" } : Jvm.MethodName)) ∈ wsL := wsL_t (tb_in2 (List.mem_of_getElem? (i := 127) rfl)) rfl
theorem wt2_128 : (Jvm.Cond.code ({ cls := "FlockCounts$Fold", name := "playTillBare", desc := "(II)I" } : Jvm.MethodName) prog_2_method_27_code (4 : Nat) (Option.some Jvm.ClassFile.FieldType.int)) ∈ wsL := wsL_t (tb_in2 (List.mem_of_getElem? (i := 128) rfl)) rfl
theorem wt2_129 : (Jvm.Cond.methodLink "FlockCountsLaw" (89 : Nat) ({ cls := "FlockCounts", name := "guise", desc := "(I)I" } : Jvm.MethodName)) ∈ wsL := wsL_t (tb_in2 (List.mem_of_getElem? (i := 129) rfl)) rfl
theorem wt2_130 : (Jvm.Cond.instanceMethod ({ cls := "FlockCounts", name := "guise", desc := "(I)I" } : Jvm.MethodName)) ∈ wsL := wsL_t (tb_in2 (List.mem_of_getElem? (i := 130) rfl)) rfl
theorem wt2_131 : (Jvm.Cond.selects "FlockCounts" ({ cls := "FlockCounts", name := "guise", desc := "(I)I" } : Jvm.MethodName) ({ cls := "FlockCounts", name := "guise", desc := "(I)I" } : Jvm.MethodName)) ∈ wsL := wsL_t (tb_in2 (List.mem_of_getElem? (i := 131) rfl)) rfl
theorem wt2_132 : (Jvm.Cond.code ({ cls := "FlockCounts", name := "guise", desc := "(I)I" } : Jvm.MethodName) prog_1_method_20_code (6 : Nat) (Option.some Jvm.ClassFile.FieldType.int)) ∈ wsL := wsL_t (tb_in2 (List.mem_of_getElem? (i := 132) rfl)) rfl
theorem wt2_133 : (Jvm.Cond.methodLink "FlockCounts" (166 : Nat) ({ cls := "FlockCounts", name := "answer", desc := "(I)I" } : Jvm.MethodName)) ∈ wsL := wsL_t (tb_in2 (List.mem_of_getElem? (i := 133) rfl)) rfl
theorem wt2_135 : (Jvm.Cond.instanceMethod ({ cls := "FlockCounts", name := "answer", desc := "(I)I" } : Jvm.MethodName)) ∈ wsL := wsL_t (tb_in2 (List.mem_of_getElem? (i := 135) rfl)) rfl
theorem wt2_136 : (Jvm.Cond.code ({ cls := "FlockCounts", name := "answer", desc := "(I)I" } : Jvm.MethodName) prog_1_method_47_code (2 : Nat) (Option.some Jvm.ClassFile.FieldType.int)) ∈ wsL := wsL_t (tb_in2 (List.mem_of_getElem? (i := 136) rfl)) rfl
theorem wt2_137 : (Jvm.Cond.methodLink "FlockCountsLaw" (93 : Nat) ({ cls := "FlockCounts", name := "guises", desc := "(II)I" } : Jvm.MethodName)) ∈ wsL := wsL_t (tb_in2 (List.mem_of_getElem? (i := 137) rfl)) rfl
theorem wt2_138 : (Jvm.Cond.instanceMethod ({ cls := "FlockCounts", name := "guises", desc := "(II)I" } : Jvm.MethodName)) ∈ wsL := wsL_t (tb_in2 (List.mem_of_getElem? (i := 138) rfl)) rfl
theorem wt2_139 : (Jvm.Cond.selects "FlockCounts" ({ cls := "FlockCounts", name := "guises", desc := "(II)I" } : Jvm.MethodName) ({ cls := "FlockCounts", name := "guises", desc := "(II)I" } : Jvm.MethodName)) ∈ wsL := wsL_t (tb_in2 (List.mem_of_getElem? (i := 139) rfl)) rfl
theorem wt2_140 : (Jvm.Cond.code ({ cls := "FlockCounts", name := "guises", desc := "(II)I" } : Jvm.MethodName) prog_1_method_21_code (7 : Nat) (Option.some Jvm.ClassFile.FieldType.int)) ∈ wsL := wsL_t (tb_in2 (List.mem_of_getElem? (i := 140) rfl)) rfl
theorem wt2_141 : (Jvm.Cond.methodLink "FlockCountsLaw" (97 : Nat) ({ cls := "FlockCounts", name := "swap", desc := "()I" } : Jvm.MethodName)) ∈ wsL := wsL_t (tb_in2 (List.mem_of_getElem? (i := 141) rfl)) rfl
theorem wt2_142 : (Jvm.Cond.instanceMethod ({ cls := "FlockCounts", name := "swap", desc := "()I" } : Jvm.MethodName)) ∈ wsL := wsL_t (tb_in2 (List.mem_of_getElem? (i := 142) rfl)) rfl
theorem wt2_143 : (Jvm.Cond.selects "FlockCounts" ({ cls := "FlockCounts", name := "swap", desc := "()I" } : Jvm.MethodName) ({ cls := "FlockCounts", name := "swap", desc := "()I" } : Jvm.MethodName)) ∈ wsL := wsL_t (tb_in2 (List.mem_of_getElem? (i := 143) rfl)) rfl
theorem wt2_144 : (Jvm.Cond.code ({ cls := "FlockCounts", name := "swap", desc := "()I" } : Jvm.MethodName) prog_1_method_22_code (6 : Nat) (Option.some Jvm.ClassFile.FieldType.int)) ∈ wsL := wsL_t (tb_in2 (List.mem_of_getElem? (i := 144) rfl)) rfl
theorem wt2_145 : (Jvm.Cond.methodLink "FlockCounts" (169 : Nat) ({ cls := "FlockCounts$Fold", name := "exchange", desc := "(II)V" } : Jvm.MethodName)) ∈ wsL := wsL_t (tb_in2 (List.mem_of_getElem? (i := 145) rfl)) rfl
theorem wt2_146 : (Jvm.Cond.instanceMethod ({ cls := "FlockCounts$Fold", name := "exchange", desc := "(II)V" } : Jvm.MethodName)) ∈ wsL := wsL_t (tb_in2 (List.mem_of_getElem? (i := 146) rfl)) rfl
theorem wt2_147 : (Jvm.Cond.selects "FlockCounts$Fold" ({ cls := "FlockCounts$Fold", name := "exchange", desc := "(II)V" } : Jvm.MethodName) ({ cls := "FlockCounts$Fold", name := "exchange", desc := "(II)V" } : Jvm.MethodName)) ∈ wsL := wsL_t (tb_in2 (List.mem_of_getElem? (i := 147) rfl)) rfl
theorem wt2_148 : (Jvm.Cond.code ({ cls := "FlockCounts$Fold", name := "exchange", desc := "(II)V" } : Jvm.MethodName) prog_2_method_10_code (5 : Nat) (Option.none : Option Jvm.ClassFile.FieldType)) ∈ wsL := wsL_t (tb_in2 (List.mem_of_getElem? (i := 148) rfl)) rfl
theorem wt2_149 : (Jvm.Cond.methodLink "FlockCountsLaw" (101 : Nat) ({ cls := "FlockCounts", name := "spare", desc := "(II)I" } : Jvm.MethodName)) ∈ wsL := wsL_t (tb_in2 (List.mem_of_getElem? (i := 149) rfl)) rfl
theorem wt2_150 : (Jvm.Cond.instanceMethod ({ cls := "FlockCounts", name := "spare", desc := "(II)I" } : Jvm.MethodName)) ∈ wsL := wsL_t (tb_in2 (List.mem_of_getElem? (i := 150) rfl)) rfl
theorem wt2_151 : (Jvm.Cond.selects "FlockCounts" ({ cls := "FlockCounts", name := "spare", desc := "(II)I" } : Jvm.MethodName) ({ cls := "FlockCounts", name := "spare", desc := "(II)I" } : Jvm.MethodName)) ∈ wsL := wsL_t (tb_in2 (List.mem_of_getElem? (i := 151) rfl)) rfl
theorem wt2_152 : (Jvm.Cond.code ({ cls := "FlockCounts", name := "spare", desc := "(II)I" } : Jvm.MethodName) prog_1_method_23_code (7 : Nat) (Option.some Jvm.ClassFile.FieldType.int)) ∈ wsL := wsL_t (tb_in2 (List.mem_of_getElem? (i := 152) rfl)) rfl
theorem wt2_153 : (Jvm.Cond.methodLink "FlockCounts" (173 : Nat) ({ cls := "java/lang/Integer", name := "bitCount", desc := "(I)I" } : Jvm.MethodName)) ∈ wsL := wsL_t (tb_in2 (List.mem_of_getElem? (i := 153) rfl)) rfl
theorem wt2_154 : (Jvm.Cond.methodLink "FlockCounts" (178 : Nat) ({ cls := "FlockCounts", name := "wearWhenOut", desc := "(II)I" } : Jvm.MethodName)) ∈ wsL := wsL_t (tb_in2 (List.mem_of_getElem? (i := 154) rfl)) rfl
theorem wt2_156 : (Jvm.Cond.instanceMethod ({ cls := "FlockCounts", name := "wearWhenOut", desc := "(II)I" } : Jvm.MethodName)) ∈ wsL := wsL_t (tb_in2 (List.mem_of_getElem? (i := 156) rfl)) rfl
theorem wt2_157 : (Jvm.Cond.code ({ cls := "FlockCounts", name := "wearWhenOut", desc := "(II)I" } : Jvm.MethodName) prog_1_method_50_code (3 : Nat) (Option.some Jvm.ClassFile.FieldType.int)) ∈ wsL := wsL_t (tb_in2 (List.mem_of_getElem? (i := 157) rfl)) rfl
theorem wt2_158 : (Jvm.Cond.methodLink "FlockCounts" (252 : Nat) ({ cls := "FlockCounts$Fold", name := "wearOut", desc := "(I)V" } : Jvm.MethodName)) ∈ wsL := wsL_t (tb_in2 (List.mem_of_getElem? (i := 158) rfl)) rfl
theorem wt2_159 : (Jvm.Cond.instanceMethod ({ cls := "FlockCounts$Fold", name := "wearOut", desc := "(I)V" } : Jvm.MethodName)) ∈ wsL := wsL_t (tb_in2 (List.mem_of_getElem? (i := 159) rfl)) rfl
theorem wt2_160 : (Jvm.Cond.selects "FlockCounts$Fold" ({ cls := "FlockCounts$Fold", name := "wearOut", desc := "(I)V" } : Jvm.MethodName) ({ cls := "FlockCounts$Fold", name := "wearOut", desc := "(I)V" } : Jvm.MethodName)) ∈ wsL := wsL_t (tb_in2 (List.mem_of_getElem? (i := 160) rfl)) rfl
theorem wt2_161 : (Jvm.Cond.code ({ cls := "FlockCounts$Fold", name := "wearOut", desc := "(I)V" } : Jvm.MethodName) prog_2_method_11_code (3 : Nat) (Option.none : Option Jvm.ClassFile.FieldType)) ∈ wsL := wsL_t (tb_in2 (List.mem_of_getElem? (i := 161) rfl)) rfl
theorem wt2_162 : (Jvm.Cond.methodLink "FlockCountsLaw" (105 : Nat) ({ cls := "FlockCounts", name := "kind", desc := "(I)I" } : Jvm.MethodName)) ∈ wsL := wsL_t (tb_in2 (List.mem_of_getElem? (i := 162) rfl)) rfl
theorem wt2_163 : (Jvm.Cond.instanceMethod ({ cls := "FlockCounts", name := "kind", desc := "(I)I" } : Jvm.MethodName)) ∈ wsL := wsL_t (tb_in2 (List.mem_of_getElem? (i := 163) rfl)) rfl
theorem wt2_164 : (Jvm.Cond.selects "FlockCounts" ({ cls := "FlockCounts", name := "kind", desc := "(I)I" } : Jvm.MethodName) ({ cls := "FlockCounts", name := "kind", desc := "(I)I" } : Jvm.MethodName)) ∈ wsL := wsL_t (tb_in2 (List.mem_of_getElem? (i := 164) rfl)) rfl
theorem wt2_165 : (Jvm.Cond.code ({ cls := "FlockCounts", name := "kind", desc := "(I)I" } : Jvm.MethodName) prog_1_method_24_code (6 : Nat) (Option.some Jvm.ClassFile.FieldType.int)) ∈ wsL := wsL_t (tb_in2 (List.mem_of_getElem? (i := 165) rfl)) rfl
theorem wt2_166 : (Jvm.Cond.methodLink "FlockCountsLaw" (109 : Nat) ({ cls := "FlockCounts", name := "most", desc := "(II)I" } : Jvm.MethodName)) ∈ wsL := wsL_t (tb_in2 (List.mem_of_getElem? (i := 166) rfl)) rfl
theorem wt2_167 : (Jvm.Cond.instanceMethod ({ cls := "FlockCounts", name := "most", desc := "(II)I" } : Jvm.MethodName)) ∈ wsL := wsL_t (tb_in2 (List.mem_of_getElem? (i := 167) rfl)) rfl
theorem wt2_168 : (Jvm.Cond.selects "FlockCounts" ({ cls := "FlockCounts", name := "most", desc := "(II)I" } : Jvm.MethodName) ({ cls := "FlockCounts", name := "most", desc := "(II)I" } : Jvm.MethodName)) ∈ wsL := wsL_t (tb_in2 (List.mem_of_getElem? (i := 168) rfl)) rfl
theorem wt2_169 : (Jvm.Cond.code ({ cls := "FlockCounts", name := "most", desc := "(II)I" } : Jvm.MethodName) prog_1_method_25_code (4 : Nat) (Option.some Jvm.ClassFile.FieldType.int)) ∈ wsL := wsL_t (tb_in2 (List.mem_of_getElem? (i := 169) rfl)) rfl
theorem wt2_170 : (Jvm.Cond.methodLink "FlockCountsLaw" (113 : Nat) ({ cls := "FlockCounts", name := "begin", desc := "(I)I" } : Jvm.MethodName)) ∈ wsL := wsL_t (tb_in2 (List.mem_of_getElem? (i := 170) rfl)) rfl
theorem wt2_171 : (Jvm.Cond.instanceMethod ({ cls := "FlockCounts", name := "begin", desc := "(I)I" } : Jvm.MethodName)) ∈ wsL := wsL_t (tb_in2 (List.mem_of_getElem? (i := 171) rfl)) rfl
theorem wt2_172 : (Jvm.Cond.selects "FlockCounts" ({ cls := "FlockCounts", name := "begin", desc := "(I)I" } : Jvm.MethodName) ({ cls := "FlockCounts", name := "begin", desc := "(I)I" } : Jvm.MethodName)) ∈ wsL := wsL_t (tb_in2 (List.mem_of_getElem? (i := 172) rfl)) rfl
theorem wt2_173 : (Jvm.Cond.code ({ cls := "FlockCounts", name := "begin", desc := "(I)I" } : Jvm.MethodName) prog_1_method_26_code (6 : Nat) (Option.some Jvm.ClassFile.FieldType.int)) ∈ wsL := wsL_t (tb_in2 (List.mem_of_getElem? (i := 173) rfl)) rfl
theorem wt2_174 : (Jvm.Cond.methodLink "FlockCountsLaw" (117 : Nat) ({ cls := "FlockCounts", name := "last", desc := "()I" } : Jvm.MethodName)) ∈ wsL := wsL_t (tb_in2 (List.mem_of_getElem? (i := 174) rfl)) rfl
theorem wt2_175 : (Jvm.Cond.instanceMethod ({ cls := "FlockCounts", name := "last", desc := "()I" } : Jvm.MethodName)) ∈ wsL := wsL_t (tb_in2 (List.mem_of_getElem? (i := 175) rfl)) rfl
theorem wt2_176 : (Jvm.Cond.selects "FlockCounts" ({ cls := "FlockCounts", name := "last", desc := "()I" } : Jvm.MethodName) ({ cls := "FlockCounts", name := "last", desc := "()I" } : Jvm.MethodName)) ∈ wsL := wsL_t (tb_in2 (List.mem_of_getElem? (i := 176) rfl)) rfl
theorem wt2_177 : (Jvm.Cond.code ({ cls := "FlockCounts", name := "last", desc := "()I" } : Jvm.MethodName) prog_1_method_27_code (5 : Nat) (Option.some Jvm.ClassFile.FieldType.int)) ∈ wsL := wsL_t (tb_in2 (List.mem_of_getElem? (i := 177) rfl)) rfl
theorem wt2_178 : (Jvm.Cond.methodLink "FlockCountsLaw" (121 : Nat) ({ cls := "FlockCounts", name := "feed", desc := "(II)I" } : Jvm.MethodName)) ∈ wsL := wsL_t (tb_in2 (List.mem_of_getElem? (i := 178) rfl)) rfl
theorem wt2_179 : (Jvm.Cond.instanceMethod ({ cls := "FlockCounts", name := "feed", desc := "(II)I" } : Jvm.MethodName)) ∈ wsL := wsL_t (tb_in2 (List.mem_of_getElem? (i := 179) rfl)) rfl
theorem wt2_180 : (Jvm.Cond.selects "FlockCounts" ({ cls := "FlockCounts", name := "feed", desc := "(II)I" } : Jvm.MethodName) ({ cls := "FlockCounts", name := "feed", desc := "(II)I" } : Jvm.MethodName)) ∈ wsL := wsL_t (tb_in2 (List.mem_of_getElem? (i := 180) rfl)) rfl
theorem wt2_181 : (Jvm.Cond.code ({ cls := "FlockCounts", name := "feed", desc := "(II)I" } : Jvm.MethodName) prog_1_method_28_code (4 : Nat) (Option.some Jvm.ClassFile.FieldType.int)) ∈ wsL := wsL_t (tb_in2 (List.mem_of_getElem? (i := 181) rfl)) rfl
theorem wt2_182 : (Jvm.Cond.methodLink "FlockCounts" (184 : Nat) ({ cls := "FlockCounts$Tape", name := "hasRoomFor", desc := "(I)Z" } : Jvm.MethodName)) ∈ wsL := wsL_t (tb_in2 (List.mem_of_getElem? (i := 182) rfl)) rfl
theorem wt2_183 : (Jvm.Cond.instanceMethod ({ cls := "FlockCounts$Tape", name := "hasRoomFor", desc := "(I)Z" } : Jvm.MethodName)) ∈ wsL := wsL_t (tb_in2 (List.mem_of_getElem? (i := 183) rfl)) rfl
theorem wt2_184 : (Jvm.Cond.selects "FlockCounts$Tape" ({ cls := "FlockCounts$Tape", name := "hasRoomFor", desc := "(I)Z" } : Jvm.MethodName) ({ cls := "FlockCounts$Tape", name := "hasRoomFor", desc := "(I)Z" } : Jvm.MethodName)) ∈ wsL := wsL_t (tb_in2 (List.mem_of_getElem? (i := 184) rfl)) rfl
theorem wt2_185 : (Jvm.Cond.code ({ cls := "FlockCounts$Tape", name := "hasRoomFor", desc := "(I)Z" } : Jvm.MethodName) prog_5_method_2_code (2 : Nat) (Option.some Jvm.ClassFile.FieldType.boolean)) ∈ wsL := wsL_t (tb_in2 (List.mem_of_getElem? (i := 185) rfl)) rfl
theorem wt2_186 : (Jvm.Cond.methodLink "FlockCounts" (187 : Nat) ({ cls := "FlockCounts$Tape", name := "append", desc := "(I)V" } : Jvm.MethodName)) ∈ wsL := wsL_t (tb_in2 (List.mem_of_getElem? (i := 186) rfl)) rfl
theorem wt2_187 : (Jvm.Cond.instanceMethod ({ cls := "FlockCounts$Tape", name := "append", desc := "(I)V" } : Jvm.MethodName)) ∈ wsL := wsL_t (tb_in2 (List.mem_of_getElem? (i := 187) rfl)) rfl
theorem wt2_188 : (Jvm.Cond.selects "FlockCounts$Tape" ({ cls := "FlockCounts$Tape", name := "append", desc := "(I)V" } : Jvm.MethodName) ({ cls := "FlockCounts$Tape", name := "append", desc := "(I)V" } : Jvm.MethodName)) ∈ wsL := wsL_t (tb_in2 (List.mem_of_getElem? (i := 188) rfl)) rfl
theorem wt2_189 : (Jvm.Cond.code ({ cls := "FlockCounts$Tape", name := "append", desc := "(I)V" } : Jvm.MethodName) prog_5_method_3_code (2 : Nat) (Option.none : Option Jvm.ClassFile.FieldType)) ∈ wsL := wsL_t (tb_in2 (List.mem_of_getElem? (i := 189) rfl)) rfl
theorem wt2_190 : (Jvm.Cond.methodLink "FlockCounts$Tape" (17 : Nat) ({ cls := "FlockCounts$Tape", name := "hasRoomFor", desc := "(I)Z" } : Jvm.MethodName)) ∈ wsL := wsL_t (tb_in2 (List.mem_of_getElem? (i := 190) rfl)) rfl
theorem wt2_191 : (Jvm.Cond.methodLink "FlockCountsLaw" (125 : Nat) ({ cls := "FlockCounts", name := "wipe", desc := "()I" } : Jvm.MethodName)) ∈ wsL := wsL_t (tb_in2 (List.mem_of_getElem? (i := 191) rfl)) rfl
theorem wt2_192 : (Jvm.Cond.instanceMethod ({ cls := "FlockCounts", name := "wipe", desc := "()I" } : Jvm.MethodName)) ∈ wsL := wsL_t (tb_in2 (List.mem_of_getElem? (i := 192) rfl)) rfl
theorem wt2_193 : (Jvm.Cond.selects "FlockCounts" ({ cls := "FlockCounts", name := "wipe", desc := "()I" } : Jvm.MethodName) ({ cls := "FlockCounts", name := "wipe", desc := "()I" } : Jvm.MethodName)) ∈ wsL := wsL_t (tb_in2 (List.mem_of_getElem? (i := 193) rfl)) rfl
theorem wt2_194 : (Jvm.Cond.code ({ cls := "FlockCounts", name := "wipe", desc := "()I" } : Jvm.MethodName) prog_1_method_29_code (2 : Nat) (Option.some Jvm.ClassFile.FieldType.int)) ∈ wsL := wsL_t (tb_in2 (List.mem_of_getElem? (i := 194) rfl)) rfl
theorem wt2_195 : (Jvm.Cond.methodLink "FlockCountsLaw" (129 : Nat) ({ cls := "FlockCounts", name := "fell", desc := "()I" } : Jvm.MethodName)) ∈ wsL := wsL_t (tb_in2 (List.mem_of_getElem? (i := 195) rfl)) rfl
theorem wt2_196 : (Jvm.Cond.instanceMethod ({ cls := "FlockCounts", name := "fell", desc := "()I" } : Jvm.MethodName)) ∈ wsL := wsL_t (tb_in2 (List.mem_of_getElem? (i := 196) rfl)) rfl
theorem wt2_197 : (Jvm.Cond.selects "FlockCounts" ({ cls := "FlockCounts", name := "fell", desc := "()I" } : Jvm.MethodName) ({ cls := "FlockCounts", name := "fell", desc := "()I" } : Jvm.MethodName)) ∈ wsL := wsL_t (tb_in2 (List.mem_of_getElem? (i := 197) rfl)) rfl
theorem wt2_198 : (Jvm.Cond.code ({ cls := "FlockCounts", name := "fell", desc := "()I" } : Jvm.MethodName) prog_1_method_30_code (2 : Nat) (Option.some Jvm.ClassFile.FieldType.int)) ∈ wsL := wsL_t (tb_in2 (List.mem_of_getElem? (i := 198) rfl)) rfl
theorem wt2_199 : (Jvm.Cond.methodLink "FlockCounts" (193 : Nat) ({ cls := "FlockCounts$Tape", name := "tellInto", desc := "(LFlockCounts$Fold;)I" } : Jvm.MethodName)) ∈ wsL := wsL_t (tb_in2 (List.mem_of_getElem? (i := 199) rfl)) rfl
theorem wt2_200 : (Jvm.Cond.instanceMethod ({ cls := "FlockCounts$Tape", name := "tellInto", desc := "(LFlockCounts$Fold;)I" } : Jvm.MethodName)) ∈ wsL := wsL_t (tb_in2 (List.mem_of_getElem? (i := 200) rfl)) rfl
theorem wt2_201 : (Jvm.Cond.selects "FlockCounts$Tape" ({ cls := "FlockCounts$Tape", name := "tellInto", desc := "(LFlockCounts$Fold;)I" } : Jvm.MethodName) ({ cls := "FlockCounts$Tape", name := "tellInto", desc := "(LFlockCounts$Fold;)I" } : Jvm.MethodName)) ∈ wsL := wsL_t (tb_in2 (List.mem_of_getElem? (i := 201) rfl)) rfl
theorem wt2_202 : (Jvm.Cond.code ({ cls := "FlockCounts$Tape", name := "tellInto", desc := "(LFlockCounts$Fold;)I" } : Jvm.MethodName) prog_5_method_4_code (3 : Nat) (Option.some Jvm.ClassFile.FieldType.int)) ∈ wsL := wsL_t (tb_in2 (List.mem_of_getElem? (i := 202) rfl)) rfl
theorem wt2_203 : (Jvm.Cond.methodLink "FlockCounts$Tape" (24 : Nat) ({ cls := "FlockCounts$Tape", name := "nextToken", desc := "()V" } : Jvm.MethodName)) ∈ wsL := wsL_t (tb_in2 (List.mem_of_getElem? (i := 203) rfl)) rfl
theorem wt2_205 : (Jvm.Cond.instanceMethod ({ cls := "FlockCounts$Tape", name := "nextToken", desc := "()V" } : Jvm.MethodName)) ∈ wsL := wsL_t (tb_in2 (List.mem_of_getElem? (i := 205) rfl)) rfl
theorem wt2_206 : (Jvm.Cond.code ({ cls := "FlockCounts$Tape", name := "nextToken", desc := "()V" } : Jvm.MethodName) prog_5_method_12_code (1 : Nat) (Option.none : Option Jvm.ClassFile.FieldType)) ∈ wsL := wsL_t (tb_in2 (List.mem_of_getElem? (i := 206) rfl)) rfl
theorem wt2_207 : (Jvm.Cond.methodLink "FlockCounts$Tape" (107 : Nat) ({ cls := "FlockCounts$Tape", name := "sortAt", desc := "(I)I" } : Jvm.MethodName)) ∈ wsL := wsL_t (tb_in2 (List.mem_of_getElem? (i := 207) rfl)) rfl
theorem wt2_209 : (Jvm.Cond.instanceMethod ({ cls := "FlockCounts$Tape", name := "sortAt", desc := "(I)I" } : Jvm.MethodName)) ∈ wsL := wsL_t (tb_in2 (List.mem_of_getElem? (i := 209) rfl)) rfl
theorem wt2_210 : (Jvm.Cond.code ({ cls := "FlockCounts$Tape", name := "sortAt", desc := "(I)I" } : Jvm.MethodName) prog_5_method_13_code (3 : Nat) (Option.some Jvm.ClassFile.FieldType.int)) ∈ wsL := wsL_t (tb_in2 (List.mem_of_getElem? (i := 210) rfl)) rfl
theorem wt2_211 : (Jvm.Cond.methodLink "FlockCounts$Tape" (111 : Nat) ({ cls := "java/lang/Math", name := "min", desc := "(II)I" } : Jvm.MethodName)) ∈ wsL := wsL_t (tb_in2 (List.mem_of_getElem? (i := 211) rfl)) rfl
theorem wt2_212 : (Jvm.Cond.methodLink "FlockCounts$Tape" (27 : Nat) ({ cls := "FlockCounts$Tape", name := "takeItem", desc := "(LFlockCounts$Fold;)Z" } : Jvm.MethodName)) ∈ wsL := wsL_t (tb_in2 (List.mem_of_getElem? (i := 212) rfl)) rfl
theorem wt2_214 : (Jvm.Cond.instanceMethod ({ cls := "FlockCounts$Tape", name := "takeItem", desc := "(LFlockCounts$Fold;)Z" } : Jvm.MethodName)) ∈ wsL := wsL_t (tb_in2 (List.mem_of_getElem? (i := 214) rfl)) rfl
theorem wt2_215 : (Jvm.Cond.code ({ cls := "FlockCounts$Tape", name := "takeItem", desc := "(LFlockCounts$Fold;)Z" } : Jvm.MethodName) prog_5_method_5_code (3 : Nat) (Option.some Jvm.ClassFile.FieldType.boolean)) ∈ wsL := wsL_t (tb_in2 (List.mem_of_getElem? (i := 215) rfl)) rfl
theorem wt2_217 : (Jvm.Cond.methodLink "FlockCounts$Tape" (39 : Nat) ({ cls := "FlockCounts$Tape", name := "isWord", desc := "(Ljava/lang/String;)Z" } : Jvm.MethodName)) ∈ wsL := wsL_t (tb_in2 (List.mem_of_getElem? (i := 217) rfl)) rfl
theorem wt2_219 : (Jvm.Cond.instanceMethod ({ cls := "FlockCounts$Tape", name := "isWord", desc := "(Ljava/lang/String;)Z" } : Jvm.MethodName)) ∈ wsL := wsL_t (tb_in2 (List.mem_of_getElem? (i := 219) rfl)) rfl
theorem wt2_220 : (Jvm.Cond.code ({ cls := "FlockCounts$Tape", name := "isWord", desc := "(Ljava/lang/String;)Z" } : Jvm.MethodName) prog_5_method_11_code (3 : Nat) (Option.some Jvm.ClassFile.FieldType.boolean)) ∈ wsL := wsL_t (tb_in2 (List.mem_of_getElem? (i := 220) rfl)) rfl
theorem wt2_221 : (Jvm.Cond.methodLink "FlockCounts$Tape" (99 : Nat) ({ cls := "java/lang/String", name := "length", desc := "()I" } : Jvm.MethodName)) ∈ wsL := wsL_t (tb_in2 (List.mem_of_getElem? (i := 221) rfl)) rfl
theorem wt2_222 : (Jvm.Cond.instanceMethod ({ cls := "java/lang/String", name := "length", desc := "()I" } : Jvm.MethodName)) ∈ wsL := wsL_t (tb_in2 (List.mem_of_getElem? (i := 222) rfl)) rfl
theorem wt2_223 : (Jvm.Cond.selects "java/lang/String" ({ cls := "java/lang/String", name := "length", desc := "()I" } : Jvm.MethodName) ({ cls := "java/lang/String", name := "length", desc := "()I" } : Jvm.MethodName)) ∈ wsL := wsL_t (tb_in2 (List.mem_of_getElem? (i := 223) rfl)) rfl
theorem wt2_224 : (Jvm.Cond.code ({ cls := "java/lang/String", name := "length", desc := "()I" } : Jvm.MethodName) prog_10_method_54_code (1 : Nat) (Option.some Jvm.ClassFile.FieldType.int)) ∈ wsL := wsL_t (tb_in2 (List.mem_of_getElem? (i := 224) rfl)) rfl
theorem wt2_225 : (Jvm.Cond.methodLink "java/lang/String" (335 : Nat) ({ cls := "java/lang/String", name := "coder", desc := "()B" } : Jvm.MethodName)) ∈ wsL := wsL_t (tb_in2 (List.mem_of_getElem? (i := 225) rfl)) rfl
theorem wt2_226 : (Jvm.Cond.instanceMethod ({ cls := "java/lang/String", name := "coder", desc := "()B" } : Jvm.MethodName)) ∈ wsL := wsL_t (tb_in2 (List.mem_of_getElem? (i := 226) rfl)) rfl
theorem wt2_227 : (Jvm.Cond.selects "java/lang/String" ({ cls := "java/lang/String", name := "coder", desc := "()B" } : Jvm.MethodName) ({ cls := "java/lang/String", name := "coder", desc := "()B" } : Jvm.MethodName)) ∈ wsL := wsL_t (tb_in2 (List.mem_of_getElem? (i := 227) rfl)) rfl
theorem wt2_228 : (Jvm.Cond.code ({ cls := "java/lang/String", name := "coder", desc := "()B" } : Jvm.MethodName) prog_10_method_152_code (1 : Nat) (Option.some Jvm.ClassFile.FieldType.byte)) ∈ wsL := wsL_t (tb_in2 (List.mem_of_getElem? (i := 228) rfl)) rfl
theorem wt2_229 : (Jvm.Cond.fieldLink "java/lang/String" (38 : Nat) "java/lang/String" "COMPACT_STRINGS" "Z") ∈ wsL := wsL_t (tb_in2 (List.mem_of_getElem? (i := 229) rfl)) rfl
theorem wt2_231 : (Jvm.Cond.methodLink "FlockCounts$Tape" (103 : Nat) ({ cls := "java/lang/String", name := "charAt", desc := "(I)C" } : Jvm.MethodName)) ∈ wsL := wsL_t (tb_in2 (List.mem_of_getElem? (i := 231) rfl)) rfl
theorem wt2_232 : (Jvm.Cond.instanceMethod ({ cls := "java/lang/String", name := "charAt", desc := "(I)C" } : Jvm.MethodName)) ∈ wsL := wsL_t (tb_in2 (List.mem_of_getElem? (i := 232) rfl)) rfl
theorem wt2_233 : (Jvm.Cond.selects "java/lang/String" ({ cls := "java/lang/String", name := "charAt", desc := "(I)C" } : Jvm.MethodName) ({ cls := "java/lang/String", name := "charAt", desc := "(I)C" } : Jvm.MethodName)) ∈ wsL := wsL_t (tb_in2 (List.mem_of_getElem? (i := 233) rfl)) rfl
theorem wt2_234 : (Jvm.Cond.code ({ cls := "java/lang/String", name := "charAt", desc := "(I)C" } : Jvm.MethodName) prog_10_method_56_code (2 : Nat) (Option.some Jvm.ClassFile.FieldType.char)) ∈ wsL := wsL_t (tb_in2 (List.mem_of_getElem? (i := 234) rfl)) rfl
theorem wt2_235 : (Jvm.Cond.methodLink "java/lang/String" (492 : Nat) ({ cls := "java/lang/String", name := "isLatin1", desc := "()Z" } : Jvm.MethodName)) ∈ wsL := wsL_t (tb_in2 (List.mem_of_getElem? (i := 235) rfl)) rfl
theorem wt2_236 : (Jvm.Cond.instanceMethod ({ cls := "java/lang/String", name := "isLatin1", desc := "()Z" } : Jvm.MethodName)) ∈ wsL := wsL_t (tb_in2 (List.mem_of_getElem? (i := 236) rfl)) rfl
theorem wt2_237 : (Jvm.Cond.selects "java/lang/String" ({ cls := "java/lang/String", name := "isLatin1", desc := "()Z" } : Jvm.MethodName) ({ cls := "java/lang/String", name := "isLatin1", desc := "()Z" } : Jvm.MethodName)) ∈ wsL := wsL_t (tb_in2 (List.mem_of_getElem? (i := 237) rfl)) rfl
theorem wt2_238 : (Jvm.Cond.code ({ cls := "java/lang/String", name := "isLatin1", desc := "()Z" } : Jvm.MethodName) prog_10_method_154_code (1 : Nat) (Option.some Jvm.ClassFile.FieldType.boolean)) ∈ wsL := wsL_t (tb_in2 (List.mem_of_getElem? (i := 238) rfl)) rfl
theorem wt2_239 : (Jvm.Cond.methodLink "java/lang/String" (495 : Nat) ({ cls := "java/lang/StringLatin1", name := "charAt", desc := "([BI)C" } : Jvm.MethodName)) ∈ wsL := wsL_t (tb_in2 (List.mem_of_getElem? (i := 239) rfl)) rfl
theorem wt3_0 : (Jvm.Cond.static ({ cls := "java/lang/StringLatin1", name := "charAt", desc := "([BI)C" } : Jvm.MethodName)) ∈ wsL := wsL_t (tb_in3 (List.mem_of_getElem? (i := 0) rfl)) rfl
theorem wt3_1 : (Jvm.Cond.code ({ cls := "java/lang/StringLatin1", name := "charAt", desc := "([BI)C" } : Jvm.MethodName) prog_11_method_2_code (2 : Nat) (Option.some Jvm.ClassFile.FieldType.char)) ∈ wsL := wsL_t (tb_in3 (List.mem_of_getElem? (i := 1) rfl)) rfl
theorem wt3_2 : (Jvm.Cond.methodLink "java/lang/StringLatin1" (9 : Nat) ({ cls := "java/lang/String", name := "checkIndex", desc := "(II)V" } : Jvm.MethodName)) ∈ wsL := wsL_t (tb_in3 (List.mem_of_getElem? (i := 2) rfl)) rfl
theorem wt3_3 : (Jvm.Cond.static ({ cls := "java/lang/String", name := "checkIndex", desc := "(II)V" } : Jvm.MethodName)) ∈ wsL := wsL_t (tb_in3 (List.mem_of_getElem? (i := 3) rfl)) rfl
theorem wt3_4 : (Jvm.Cond.code ({ cls := "java/lang/String", name := "checkIndex", desc := "(II)V" } : Jvm.MethodName) prog_10_method_155_code (2 : Nat) (Option.none : Option Jvm.ClassFile.FieldType)) ∈ wsL := wsL_t (tb_in3 (List.mem_of_getElem? (i := 4) rfl)) rfl
theorem wt3_5 : (Jvm.Cond.fieldLink "java/lang/String" (1053 : Nat) "jdk/internal/util/Preconditions" "SIOOBE_FORMATTER" "Ljava/util/function/BiFunction;") ∈ wsL := wsL_t (tb_in3 (List.mem_of_getElem? (i := 5) rfl)) rfl
theorem wt3_7 : (Jvm.Cond.methodLink "java/lang/String" (1059 : Nat) ({ cls := "jdk/internal/util/Preconditions", name := "checkIndex", desc := "(IILjava/util/function/BiFunction;)I" } : Jvm.MethodName)) ∈ wsL := wsL_t (tb_in3 (List.mem_of_getElem? (i := 7) rfl)) rfl
theorem wt3_8 : (Jvm.Cond.static ({ cls := "jdk/internal/util/Preconditions", name := "checkIndex", desc := "(IILjava/util/function/BiFunction;)I" } : Jvm.MethodName)) ∈ wsL := wsL_t (tb_in3 (List.mem_of_getElem? (i := 8) rfl)) rfl
theorem wt3_9 : (Jvm.Cond.code ({ cls := "jdk/internal/util/Preconditions", name := "checkIndex", desc := "(IILjava/util/function/BiFunction;)I" } : Jvm.MethodName) prog_14_method_11_code (3 : Nat) (Option.some Jvm.ClassFile.FieldType.int)) ∈ wsL := wsL_t (tb_in3 (List.mem_of_getElem? (i := 9) rfl)) rfl
theorem wt3_10 : (Jvm.Cond.methodLink "java/lang/String" (498 : Nat) ({ cls := "java/lang/StringUTF16", name := "charAt", desc := "([BI)C" } : Jvm.MethodName)) ∈ wsL := wsL_t (tb_in3 (List.mem_of_getElem? (i := 10) rfl)) rfl
theorem wt3_11 : (Jvm.Cond.static ({ cls := "java/lang/StringUTF16", name := "charAt", desc := "([BI)C" } : Jvm.MethodName)) ∈ wsL := wsL_t (tb_in3 (List.mem_of_getElem? (i := 11) rfl)) rfl
theorem wt3_12 : (Jvm.Cond.code ({ cls := "java/lang/StringUTF16", name := "charAt", desc := "([BI)C" } : Jvm.MethodName) prog_12_method_83_code (2 : Nat) (Option.some Jvm.ClassFile.FieldType.char)) ∈ wsL := wsL_t (tb_in3 (List.mem_of_getElem? (i := 12) rfl)) rfl
theorem wt3_13 : (Jvm.Cond.methodLink "java/lang/StringUTF16" (67 : Nat) ({ cls := "java/lang/StringUTF16", name := "checkIndex", desc := "(I[B)V" } : Jvm.MethodName)) ∈ wsL := wsL_t (tb_in3 (List.mem_of_getElem? (i := 13) rfl)) rfl
theorem wt3_14 : (Jvm.Cond.static ({ cls := "java/lang/StringUTF16", name := "checkIndex", desc := "(I[B)V" } : Jvm.MethodName)) ∈ wsL := wsL_t (tb_in3 (List.mem_of_getElem? (i := 14) rfl)) rfl
theorem wt3_15 : (Jvm.Cond.code ({ cls := "java/lang/StringUTF16", name := "checkIndex", desc := "(I[B)V" } : Jvm.MethodName) prog_12_method_91_code (2 : Nat) (Option.none : Option Jvm.ClassFile.FieldType)) ∈ wsL := wsL_t (tb_in3 (List.mem_of_getElem? (i := 15) rfl)) rfl
theorem wt3_16 : (Jvm.Cond.methodLink "java/lang/StringUTF16" (48 : Nat) ({ cls := "java/lang/StringUTF16", name := "length", desc := "([B)I" } : Jvm.MethodName)) ∈ wsL := wsL_t (tb_in3 (List.mem_of_getElem? (i := 16) rfl)) rfl
theorem wt3_17 : (Jvm.Cond.static ({ cls := "java/lang/StringUTF16", name := "length", desc := "([B)I" } : Jvm.MethodName)) ∈ wsL := wsL_t (tb_in3 (List.mem_of_getElem? (i := 17) rfl)) rfl
theorem wt3_18 : (Jvm.Cond.code ({ cls := "java/lang/StringUTF16", name := "length", desc := "([B)I" } : Jvm.MethodName) prog_12_method_6_code (1 : Nat) (Option.some Jvm.ClassFile.FieldType.int)) ∈ wsL := wsL_t (tb_in3 (List.mem_of_getElem? (i := 18) rfl)) rfl
theorem wt3_19 : (Jvm.Cond.methodLink "java/lang/StringUTF16" (414 : Nat) ({ cls := "java/lang/String", name := "checkIndex", desc := "(II)V" } : Jvm.MethodName)) ∈ wsL := wsL_t (tb_in3 (List.mem_of_getElem? (i := 19) rfl)) rfl
theorem wt3_20 : (Jvm.Cond.methodLink "java/lang/StringUTF16" (71 : Nat) ({ cls := "java/lang/StringUTF16", name := "getChar", desc := "([BI)C" } : Jvm.MethodName)) ∈ wsL := wsL_t (tb_in3 (List.mem_of_getElem? (i := 20) rfl)) rfl
theorem wt3_21 : (Jvm.Cond.static ({ cls := "java/lang/StringUTF16", name := "getChar", desc := "([BI)C" } : Jvm.MethodName)) ∈ wsL := wsL_t (tb_in3 (List.mem_of_getElem? (i := 21) rfl)) rfl
theorem wt3_22 : (Jvm.Cond.code ({ cls := "java/lang/StringUTF16", name := "getChar", desc := "([BI)C" } : Jvm.MethodName) prog_12_method_5_code (2 : Nat) (Option.some Jvm.ClassFile.FieldType.char)) ∈ wsL := wsL_t (tb_in3 (List.mem_of_getElem? (i := 22) rfl)) rfl
theorem wt3_23 : (Jvm.Cond.fieldLink "java/lang/StringUTF16" (44 : Nat) "java/lang/StringUTF16" "$assertionsDisabled" "Z") ∈ wsL := wsL_t (tb_in3 (List.mem_of_getElem? (i := 23) rfl)) rfl
theorem wt3_25 : (Jvm.Cond.fieldLink "java/lang/StringUTF16" (59 : Nat) "java/lang/StringUTF16" "HI_BYTE_SHIFT" "I") ∈ wsL := wsL_t (tb_in3 (List.mem_of_getElem? (i := 25) rfl)) rfl
theorem wt3_27 : (Jvm.Cond.fieldLink "java/lang/StringUTF16" (63 : Nat) "java/lang/StringUTF16" "LO_BYTE_SHIFT" "I") ∈ wsL := wsL_t (tb_in3 (List.mem_of_getElem? (i := 27) rfl)) rfl
theorem wt3_29 : (Jvm.Cond.methodLink "FlockCounts$Tape" (43 : Nat) ({ cls := "FlockCounts$Fold", name := "hasRoomForMan", desc := "()Z" } : Jvm.MethodName)) ∈ wsL := wsL_t (tb_in3 (List.mem_of_getElem? (i := 29) rfl)) rfl
theorem wt3_30 : (Jvm.Cond.methodLink "FlockCounts$Tape" (49 : Nat) ({ cls := "FlockCounts$Tape", name := "takeMan", desc := "(LFlockCounts$Fold;)Z" } : Jvm.MethodName)) ∈ wsL := wsL_t (tb_in3 (List.mem_of_getElem? (i := 30) rfl)) rfl
theorem wt3_32 : (Jvm.Cond.instanceMethod ({ cls := "FlockCounts$Tape", name := "takeMan", desc := "(LFlockCounts$Fold;)Z" } : Jvm.MethodName)) ∈ wsL := wsL_t (tb_in3 (List.mem_of_getElem? (i := 32) rfl)) rfl
theorem wt3_33 : (Jvm.Cond.code ({ cls := "FlockCounts$Tape", name := "takeMan", desc := "(LFlockCounts$Fold;)Z" } : Jvm.MethodName) prog_5_method_7_code (4 : Nat) (Option.some Jvm.ClassFile.FieldType.boolean)) ∈ wsL := wsL_t (tb_in3 (List.mem_of_getElem? (i := 33) rfl)) rfl
theorem wt3_35 : (Jvm.Cond.methodLink "FlockCounts$Tape" (80 : Nat) ({ cls := "FlockCounts$Tape", name := "takeWord", desc := "(Ljava/lang/String;)Z" } : Jvm.MethodName)) ∈ wsL := wsL_t (tb_in3 (List.mem_of_getElem? (i := 35) rfl)) rfl
theorem wt3_37 : (Jvm.Cond.instanceMethod ({ cls := "FlockCounts$Tape", name := "takeWord", desc := "(Ljava/lang/String;)Z" } : Jvm.MethodName)) ∈ wsL := wsL_t (tb_in3 (List.mem_of_getElem? (i := 37) rfl)) rfl
theorem wt3_38 : (Jvm.Cond.code ({ cls := "FlockCounts$Tape", name := "takeWord", desc := "(Ljava/lang/String;)Z" } : Jvm.MethodName) prog_5_method_9_code (2 : Nat) (Option.some Jvm.ClassFile.FieldType.boolean)) ∈ wsL := wsL_t (tb_in3 (List.mem_of_getElem? (i := 38) rfl)) rfl
theorem wt3_42 : (Jvm.Cond.methodLink "FlockCounts$Tape" (70 : Nat) ({ cls := "FlockCounts$Tape", name := "takeNumberAfter", desc := "(Ljava/lang/String;II)I" } : Jvm.MethodName)) ∈ wsL := wsL_t (tb_in3 (List.mem_of_getElem? (i := 42) rfl)) rfl
theorem wt3_44 : (Jvm.Cond.instanceMethod ({ cls := "FlockCounts$Tape", name := "takeNumberAfter", desc := "(Ljava/lang/String;II)I" } : Jvm.MethodName)) ∈ wsL := wsL_t (tb_in3 (List.mem_of_getElem? (i := 44) rfl)) rfl
theorem wt3_45 : (Jvm.Cond.code ({ cls := "FlockCounts$Tape", name := "takeNumberAfter", desc := "(Ljava/lang/String;II)I" } : Jvm.MethodName) prog_5_method_8_code (5 : Nat) (Option.some Jvm.ClassFile.FieldType.int)) ∈ wsL := wsL_t (tb_in3 (List.mem_of_getElem? (i := 45) rfl)) rfl
theorem wt3_46 : (Jvm.Cond.methodLink "FlockCounts$Tape" (92 : Nat) ({ cls := "FlockCounts$Tape", name := "numberHere", desc := "()I" } : Jvm.MethodName)) ∈ wsL := wsL_t (tb_in3 (List.mem_of_getElem? (i := 46) rfl)) rfl
theorem wt3_48 : (Jvm.Cond.instanceMethod ({ cls := "FlockCounts$Tape", name := "numberHere", desc := "()I" } : Jvm.MethodName)) ∈ wsL := wsL_t (tb_in3 (List.mem_of_getElem? (i := 48) rfl)) rfl
theorem wt3_49 : (Jvm.Cond.code ({ cls := "FlockCounts$Tape", name := "numberHere", desc := "()I" } : Jvm.MethodName) prog_5_method_14_code (3 : Nat) (Option.some Jvm.ClassFile.FieldType.int)) ∈ wsL := wsL_t (tb_in3 (List.mem_of_getElem? (i := 49) rfl)) rfl
theorem wt3_50 : (Jvm.Cond.methodLink "FlockCounts$Tape" (89 : Nat) ({ cls := "FlockCounts$Fold", name := "addMan", desc := "(II)I" } : Jvm.MethodName)) ∈ wsL := wsL_t (tb_in3 (List.mem_of_getElem? (i := 50) rfl)) rfl
theorem wt3_51 : (Jvm.Cond.methodLink "FlockCounts$Tape" (52 : Nat) ({ cls := "FlockCounts$Tape", name := "kindNamed", desc := "()I" } : Jvm.MethodName)) ∈ wsL := wsL_t (tb_in3 (List.mem_of_getElem? (i := 51) rfl)) rfl
theorem wt3_53 : (Jvm.Cond.instanceMethod ({ cls := "FlockCounts$Tape", name := "kindNamed", desc := "()I" } : Jvm.MethodName)) ∈ wsL := wsL_t (tb_in3 (List.mem_of_getElem? (i := 53) rfl)) rfl
theorem wt3_54 : (Jvm.Cond.code ({ cls := "FlockCounts$Tape", name := "kindNamed", desc := "()I" } : Jvm.MethodName) prog_5_method_10_code (2 : Nat) (Option.some Jvm.ClassFile.FieldType.int)) ∈ wsL := wsL_t (tb_in3 (List.mem_of_getElem? (i := 54) rfl)) rfl
theorem wt3_55 : (Jvm.Cond.methodLink "FlockCounts$Tape" (95 : Nat) ({ cls := "FlockCounts$Kinds", name := "nameOf", desc := "(I)Ljava/lang/String;" } : Jvm.MethodName)) ∈ wsL := wsL_t (tb_in3 (List.mem_of_getElem? (i := 55) rfl)) rfl
theorem wt3_56 : (Jvm.Cond.static ({ cls := "FlockCounts$Kinds", name := "nameOf", desc := "(I)Ljava/lang/String;" } : Jvm.MethodName)) ∈ wsL := wsL_t (tb_in3 (List.mem_of_getElem? (i := 56) rfl)) rfl
theorem wt3_57 : (Jvm.Cond.code ({ cls := "FlockCounts$Kinds", name := "nameOf", desc := "(I)Ljava/lang/String;" } : Jvm.MethodName) prog_3_method_3_code (1 : Nat) (Option.some (Jvm.ClassFile.FieldType.object "java/lang/String"))) ∈ wsL := wsL_t (tb_in3 (List.mem_of_getElem? (i := 57) rfl)) rfl
theorem wt3_64 : (Jvm.Cond.methodLink "FlockCounts$Tape" (56 : Nat) ({ cls := "FlockCounts$Kinds", name := "isKind", desc := "(I)Z" } : Jvm.MethodName)) ∈ wsL := wsL_t (tb_in3 (List.mem_of_getElem? (i := 64) rfl)) rfl
theorem wt3_65 : (Jvm.Cond.methodLink "FlockCounts$Tape" (61 : Nat) ({ cls := "FlockCounts$Fold", name := "hasRoomForSheep", desc := "()Z" } : Jvm.MethodName)) ∈ wsL := wsL_t (tb_in3 (List.mem_of_getElem? (i := 65) rfl)) rfl
theorem wt3_66 : (Jvm.Cond.methodLink "FlockCounts$Tape" (64 : Nat) ({ cls := "FlockCounts$Tape", name := "takeSheep", desc := "(LFlockCounts$Fold;I)Z" } : Jvm.MethodName)) ∈ wsL := wsL_t (tb_in3 (List.mem_of_getElem? (i := 66) rfl)) rfl
theorem wt3_68 : (Jvm.Cond.instanceMethod ({ cls := "FlockCounts$Tape", name := "takeSheep", desc := "(LFlockCounts$Fold;I)Z" } : Jvm.MethodName)) ∈ wsL := wsL_t (tb_in3 (List.mem_of_getElem? (i := 68) rfl)) rfl
theorem wt3_69 : (Jvm.Cond.code ({ cls := "FlockCounts$Tape", name := "takeSheep", desc := "(LFlockCounts$Fold;I)Z" } : Jvm.MethodName) prog_5_method_6_code (4 : Nat) (Option.some Jvm.ClassFile.FieldType.boolean)) ∈ wsL := wsL_t (tb_in3 (List.mem_of_getElem? (i := 69) rfl)) rfl
theorem wt3_71 : (Jvm.Cond.methodLink "FlockCounts$Tape" (74 : Nat) ({ cls := "FlockCounts$Fold", name := "addSheep", desc := "(II)I" } : Jvm.MethodName)) ∈ wsL := wsL_t (tb_in3 (List.mem_of_getElem? (i := 71) rfl)) rfl
theorem wt3_72 : (Jvm.Cond.arrayClass Jvm.ClassFile.FieldType.byte) ∈ wsL := wsL_t (tb_in3 (List.mem_of_getElem? (i := 72) rfl)) rfl
theorem wt3_73 : (Jvm.Cond.methodLink "FlockCountsLaw" (133 : Nat) ({ cls := "FlockCounts", name := "sheet", desc := "(III)I" } : Jvm.MethodName)) ∈ wsL := wsL_t (tb_in3 (List.mem_of_getElem? (i := 73) rfl)) rfl
theorem wt3_74 : (Jvm.Cond.instanceMethod ({ cls := "FlockCounts", name := "sheet", desc := "(III)I" } : Jvm.MethodName)) ∈ wsL := wsL_t (tb_in3 (List.mem_of_getElem? (i := 74) rfl)) rfl
theorem wt3_75 : (Jvm.Cond.selects "FlockCounts" ({ cls := "FlockCounts", name := "sheet", desc := "(III)I" } : Jvm.MethodName) ({ cls := "FlockCounts", name := "sheet", desc := "(III)I" } : Jvm.MethodName)) ∈ wsL := wsL_t (tb_in3 (List.mem_of_getElem? (i := 75) rfl)) rfl
theorem wt3_76 : (Jvm.Cond.code ({ cls := "FlockCounts", name := "sheet", desc := "(III)I" } : Jvm.MethodName) prog_1_method_31_code (4 : Nat) (Option.some Jvm.ClassFile.FieldType.int)) ∈ wsL := wsL_t (tb_in3 (List.mem_of_getElem? (i := 76) rfl)) rfl
theorem wt3_77 : (Jvm.Cond.methodLink "FlockCounts" (201 : Nat) ({ cls := "FlockCounts", name := "isSheet", desc := "(I)Z" } : Jvm.MethodName)) ∈ wsL := wsL_t (tb_in3 (List.mem_of_getElem? (i := 77) rfl)) rfl
theorem wt3_79 : (Jvm.Cond.instanceMethod ({ cls := "FlockCounts", name := "isSheet", desc := "(I)Z" } : Jvm.MethodName)) ∈ wsL := wsL_t (tb_in3 (List.mem_of_getElem? (i := 79) rfl)) rfl
theorem wt3_80 : (Jvm.Cond.code ({ cls := "FlockCounts", name := "isSheet", desc := "(I)Z" } : Jvm.MethodName) prog_1_method_44_code (2 : Nat) (Option.some Jvm.ClassFile.FieldType.boolean)) ∈ wsL := wsL_t (tb_in3 (List.mem_of_getElem? (i := 80) rfl)) rfl
theorem wt3_81 : (Jvm.Cond.methodLink "FlockCounts" (204 : Nat) ({ cls := "FlockCounts$Sheet", name := "isWidth", desc := "(I)Z" } : Jvm.MethodName)) ∈ wsL := wsL_t (tb_in3 (List.mem_of_getElem? (i := 81) rfl)) rfl
theorem wt3_82 : (Jvm.Cond.static ({ cls := "FlockCounts$Sheet", name := "isWidth", desc := "(I)Z" } : Jvm.MethodName)) ∈ wsL := wsL_t (tb_in3 (List.mem_of_getElem? (i := 82) rfl)) rfl
theorem wt3_83 : (Jvm.Cond.code ({ cls := "FlockCounts$Sheet", name := "isWidth", desc := "(I)Z" } : Jvm.MethodName) prog_4_method_2_code (1 : Nat) (Option.some Jvm.ClassFile.FieldType.boolean)) ∈ wsL := wsL_t (tb_in3 (List.mem_of_getElem? (i := 83) rfl)) rfl
theorem wt3_84 : (Jvm.Cond.constant "FlockCounts" (207 : Nat) (-1000000007 : Int32)) ∈ wsL := wsL_t (tb_in3 (List.mem_of_getElem? (i := 84) rfl)) rfl
theorem wt3_85 : (Jvm.Cond.methodLink "FlockCounts" (208 : Nat) ({ cls := "FlockCounts$Sheet", name := "ruleAnew", desc := "(II)V" } : Jvm.MethodName)) ∈ wsL := wsL_t (tb_in3 (List.mem_of_getElem? (i := 85) rfl)) rfl
theorem wt3_86 : (Jvm.Cond.instanceMethod ({ cls := "FlockCounts$Sheet", name := "ruleAnew", desc := "(II)V" } : Jvm.MethodName)) ∈ wsL := wsL_t (tb_in3 (List.mem_of_getElem? (i := 86) rfl)) rfl
theorem wt3_87 : (Jvm.Cond.selects "FlockCounts$Sheet" ({ cls := "FlockCounts$Sheet", name := "ruleAnew", desc := "(II)V" } : Jvm.MethodName) ({ cls := "FlockCounts$Sheet", name := "ruleAnew", desc := "(II)V" } : Jvm.MethodName)) ∈ wsL := wsL_t (tb_in3 (List.mem_of_getElem? (i := 87) rfl)) rfl
theorem wt3_88 : (Jvm.Cond.code ({ cls := "FlockCounts$Sheet", name := "ruleAnew", desc := "(II)V" } : Jvm.MethodName) prog_4_method_4_code (4 : Nat) (Option.none : Option Jvm.ClassFile.FieldType)) ∈ wsL := wsL_t (tb_in3 (List.mem_of_getElem? (i := 88) rfl)) rfl
theorem wt3_89 : (Jvm.Cond.methodLink "FlockCountsLaw" (139 : Nat) ({ cls := "FlockCounts", name := "write", desc := "(IIJ)J" } : Jvm.MethodName)) ∈ wsL := wsL_t (tb_in3 (List.mem_of_getElem? (i := 89) rfl)) rfl
theorem wt3_90 : (Jvm.Cond.instanceMethod ({ cls := "FlockCounts", name := "write", desc := "(IIJ)J" } : Jvm.MethodName)) ∈ wsL := wsL_t (tb_in3 (List.mem_of_getElem? (i := 90) rfl)) rfl
theorem wt3_91 : (Jvm.Cond.selects "FlockCounts" ({ cls := "FlockCounts", name := "write", desc := "(IIJ)J" } : Jvm.MethodName) ({ cls := "FlockCounts", name := "write", desc := "(IIJ)J" } : Jvm.MethodName)) ∈ wsL := wsL_t (tb_in3 (List.mem_of_getElem? (i := 91) rfl)) rfl
theorem wt3_92 : (Jvm.Cond.code ({ cls := "FlockCounts", name := "write", desc := "(IIJ)J" } : Jvm.MethodName) prog_1_method_32_code (8 : Nat) (Option.some Jvm.ClassFile.FieldType.long)) ∈ wsL := wsL_t (tb_in3 (List.mem_of_getElem? (i := 92) rfl)) rfl
theorem wt3_93 : (Jvm.Cond.methodLink "FlockCounts" (212 : Nat) ({ cls := "FlockCounts", name := "missingSheet", desc := "(I)I" } : Jvm.MethodName)) ∈ wsL := wsL_t (tb_in3 (List.mem_of_getElem? (i := 93) rfl)) rfl
theorem wt3_95 : (Jvm.Cond.instanceMethod ({ cls := "FlockCounts", name := "missingSheet", desc := "(I)I" } : Jvm.MethodName)) ∈ wsL := wsL_t (tb_in3 (List.mem_of_getElem? (i := 95) rfl)) rfl
theorem wt3_96 : (Jvm.Cond.code ({ cls := "FlockCounts", name := "missingSheet", desc := "(I)I" } : Jvm.MethodName) prog_1_method_45_code (2 : Nat) (Option.some Jvm.ClassFile.FieldType.int)) ∈ wsL := wsL_t (tb_in3 (List.mem_of_getElem? (i := 96) rfl)) rfl
theorem wt3_97 : (Jvm.Cond.methodLink "FlockCounts" (223 : Nat) ({ cls := "FlockCounts$Sheet", name := "isMissing", desc := "()Z" } : Jvm.MethodName)) ∈ wsL := wsL_t (tb_in3 (List.mem_of_getElem? (i := 97) rfl)) rfl
theorem wt3_98 : (Jvm.Cond.instanceMethod ({ cls := "FlockCounts$Sheet", name := "isMissing", desc := "()Z" } : Jvm.MethodName)) ∈ wsL := wsL_t (tb_in3 (List.mem_of_getElem? (i := 98) rfl)) rfl
theorem wt3_99 : (Jvm.Cond.selects "FlockCounts$Sheet" ({ cls := "FlockCounts$Sheet", name := "isMissing", desc := "()Z" } : Jvm.MethodName) ({ cls := "FlockCounts$Sheet", name := "isMissing", desc := "()Z" } : Jvm.MethodName)) ∈ wsL := wsL_t (tb_in3 (List.mem_of_getElem? (i := 99) rfl)) rfl
theorem wt3_100 : (Jvm.Cond.code ({ cls := "FlockCounts$Sheet", name := "isMissing", desc := "()Z" } : Jvm.MethodName) prog_4_method_3_code (1 : Nat) (Option.some Jvm.ClassFile.FieldType.boolean)) ∈ wsL := wsL_t (tb_in3 (List.mem_of_getElem? (i := 100) rfl)) rfl
theorem wt3_101 : (Jvm.Cond.constant "FlockCounts" (226 : Nat) (-1000000006 : Int32)) ∈ wsL := wsL_t (tb_in3 (List.mem_of_getElem? (i := 101) rfl)) rfl
theorem wt3_102 : (Jvm.Cond.methodLink "FlockCounts" (219 : Nat) ({ cls := "FlockCounts$Sheet", name := "put", desc := "(IJ)V" } : Jvm.MethodName)) ∈ wsL := wsL_t (tb_in3 (List.mem_of_getElem? (i := 102) rfl)) rfl
theorem wt3_103 : (Jvm.Cond.instanceMethod ({ cls := "FlockCounts$Sheet", name := "put", desc := "(IJ)V" } : Jvm.MethodName)) ∈ wsL := wsL_t (tb_in3 (List.mem_of_getElem? (i := 103) rfl)) rfl
theorem wt3_104 : (Jvm.Cond.selects "FlockCounts$Sheet" ({ cls := "FlockCounts$Sheet", name := "put", desc := "(IJ)V" } : Jvm.MethodName) ({ cls := "FlockCounts$Sheet", name := "put", desc := "(IJ)V" } : Jvm.MethodName)) ∈ wsL := wsL_t (tb_in3 (List.mem_of_getElem? (i := 104) rfl)) rfl
theorem wt3_105 : (Jvm.Cond.code ({ cls := "FlockCounts$Sheet", name := "put", desc := "(IJ)V" } : Jvm.MethodName) prog_4_method_5_code (4 : Nat) (Option.none : Option Jvm.ClassFile.FieldType)) ∈ wsL := wsL_t (tb_in3 (List.mem_of_getElem? (i := 105) rfl)) rfl
theorem wt3_106 : (Jvm.Cond.methodLink "FlockCountsLaw" (144 : Nat) ({ cls := "FlockCounts", name := "copy", desc := "(IIIII)I" } : Jvm.MethodName)) ∈ wsL := wsL_t (tb_in3 (List.mem_of_getElem? (i := 106) rfl)) rfl
theorem wt3_107 : (Jvm.Cond.instanceMethod ({ cls := "FlockCounts", name := "copy", desc := "(IIIII)I" } : Jvm.MethodName)) ∈ wsL := wsL_t (tb_in3 (List.mem_of_getElem? (i := 107) rfl)) rfl
theorem wt3_108 : (Jvm.Cond.selects "FlockCounts" ({ cls := "FlockCounts", name := "copy", desc := "(IIIII)I" } : Jvm.MethodName) ({ cls := "FlockCounts", name := "copy", desc := "(IIIII)I" } : Jvm.MethodName)) ∈ wsL := wsL_t (tb_in3 (List.mem_of_getElem? (i := 108) rfl)) rfl
theorem wt3_109 : (Jvm.Cond.code ({ cls := "FlockCounts", name := "copy", desc := "(IIIII)I" } : Jvm.MethodName) prog_1_method_33_code (8 : Nat) (Option.some Jvm.ClassFile.FieldType.int)) ∈ wsL := wsL_t (tb_in3 (List.mem_of_getElem? (i := 109) rfl)) rfl
theorem wt3_110 : (Jvm.Cond.methodLink "FlockCounts" (230 : Nat) ({ cls := "FlockCounts$Sheet", name := "hasRun", desc := "(II)Z" } : Jvm.MethodName)) ∈ wsL := wsL_t (tb_in3 (List.mem_of_getElem? (i := 110) rfl)) rfl
theorem wt3_111 : (Jvm.Cond.instanceMethod ({ cls := "FlockCounts$Sheet", name := "hasRun", desc := "(II)Z" } : Jvm.MethodName)) ∈ wsL := wsL_t (tb_in3 (List.mem_of_getElem? (i := 111) rfl)) rfl
theorem wt3_112 : (Jvm.Cond.selects "FlockCounts$Sheet" ({ cls := "FlockCounts$Sheet", name := "hasRun", desc := "(II)Z" } : Jvm.MethodName) ({ cls := "FlockCounts$Sheet", name := "hasRun", desc := "(II)Z" } : Jvm.MethodName)) ∈ wsL := wsL_t (tb_in3 (List.mem_of_getElem? (i := 112) rfl)) rfl
theorem wt3_113 : (Jvm.Cond.code ({ cls := "FlockCounts$Sheet", name := "hasRun", desc := "(II)Z" } : Jvm.MethodName) prog_4_method_6_code (3 : Nat) (Option.some Jvm.ClassFile.FieldType.boolean)) ∈ wsL := wsL_t (tb_in3 (List.mem_of_getElem? (i := 113) rfl)) rfl
theorem wt3_114 : (Jvm.Cond.methodLink "FlockCounts" (233 : Nat) ({ cls := "java/lang/System", name := "arraycopy", desc := "(Ljava/lang/Object;ILjava/lang/Object;II)V" } : Jvm.MethodName)) ∈ wsL := wsL_t (tb_in3 (List.mem_of_getElem? (i := 114) rfl)) rfl
theorem wt3_115 : (Jvm.Cond.static ({ cls := "java/lang/System", name := "arraycopy", desc := "(Ljava/lang/Object;ILjava/lang/Object;II)V" } : Jvm.MethodName)) ∈ wsL := wsL_t (tb_in3 (List.mem_of_getElem? (i := 115) rfl)) rfl
theorem wt3_116 : (Jvm.Cond.native ({ cls := "java/lang/System", name := "arraycopy", desc := "(Ljava/lang/Object;ILjava/lang/Object;II)V" } : Jvm.MethodName)) ∈ wsL := wsL_t (tb_in3 (List.mem_of_getElem? (i := 116) rfl)) rfl
theorem wt3_117 : (Jvm.Cond.methodLink "FlockCountsLaw" (149 : Nat) ({ cls := "FlockCounts", name := "lays", desc := "(I)I" } : Jvm.MethodName)) ∈ wsL := wsL_t (tb_in3 (List.mem_of_getElem? (i := 117) rfl)) rfl
theorem wt3_118 : (Jvm.Cond.instanceMethod ({ cls := "FlockCounts", name := "lays", desc := "(I)I" } : Jvm.MethodName)) ∈ wsL := wsL_t (tb_in3 (List.mem_of_getElem? (i := 118) rfl)) rfl
theorem wt3_119 : (Jvm.Cond.selects "FlockCounts" ({ cls := "FlockCounts", name := "lays", desc := "(I)I" } : Jvm.MethodName) ({ cls := "FlockCounts", name := "lays", desc := "(I)I" } : Jvm.MethodName)) ∈ wsL := wsL_t (tb_in3 (List.mem_of_getElem? (i := 119) rfl)) rfl
theorem wt3_120 : (Jvm.Cond.code ({ cls := "FlockCounts", name := "lays", desc := "(I)I" } : Jvm.MethodName) prog_1_method_34_code (8 : Nat) (Option.some Jvm.ClassFile.FieldType.int)) ∈ wsL := wsL_t (tb_in3 (List.mem_of_getElem? (i := 120) rfl)) rfl
theorem wt3_121 : (Jvm.Cond.constantLong "FlockCounts" (239 : Nat) (99 : Int64)) ∈ wsL := wsL_t (tb_in3 (List.mem_of_getElem? (i := 121) rfl)) rfl
theorem wt3_122 : (Jvm.Cond.methodLink "FlockCountsLaw" (153 : Nat) ({ cls := "FlockCounts", name := "book", desc := "(II)I" } : Jvm.MethodName)) ∈ wsL := wsL_t (tb_in3 (List.mem_of_getElem? (i := 122) rfl)) rfl
theorem wt3_123 : (Jvm.Cond.instanceMethod ({ cls := "FlockCounts", name := "book", desc := "(II)I" } : Jvm.MethodName)) ∈ wsL := wsL_t (tb_in3 (List.mem_of_getElem? (i := 123) rfl)) rfl
theorem wt3_124 : (Jvm.Cond.selects "FlockCounts" ({ cls := "FlockCounts", name := "book", desc := "(II)I" } : Jvm.MethodName) ({ cls := "FlockCounts", name := "book", desc := "(II)I" } : Jvm.MethodName)) ∈ wsL := wsL_t (tb_in3 (List.mem_of_getElem? (i := 124) rfl)) rfl
theorem wt3_125 : (Jvm.Cond.code ({ cls := "FlockCounts", name := "book", desc := "(II)I" } : Jvm.MethodName) prog_1_method_35_code (6 : Nat) (Option.some Jvm.ClassFile.FieldType.int)) ∈ wsL := wsL_t (tb_in3 (List.mem_of_getElem? (i := 125) rfl)) rfl
theorem wt3_126 : (Jvm.Cond.methodLink "FlockCountsLaw" (157 : Nat) ({ cls := "FlockCounts", name := "read", desc := "(II)I" } : Jvm.MethodName)) ∈ wsL := wsL_t (tb_in3 (List.mem_of_getElem? (i := 126) rfl)) rfl
theorem wt3_127 : (Jvm.Cond.instanceMethod ({ cls := "FlockCounts", name := "read", desc := "(II)I" } : Jvm.MethodName)) ∈ wsL := wsL_t (tb_in3 (List.mem_of_getElem? (i := 127) rfl)) rfl
theorem wt3_128 : (Jvm.Cond.selects "FlockCounts" ({ cls := "FlockCounts", name := "read", desc := "(II)I" } : Jvm.MethodName) ({ cls := "FlockCounts", name := "read", desc := "(II)I" } : Jvm.MethodName)) ∈ wsL := wsL_t (tb_in3 (List.mem_of_getElem? (i := 128) rfl)) rfl
theorem wt3_129 : (Jvm.Cond.code ({ cls := "FlockCounts", name := "read", desc := "(II)I" } : Jvm.MethodName) prog_1_method_36_code (7 : Nat) (Option.some Jvm.ClassFile.FieldType.int)) ∈ wsL := wsL_t (tb_in3 (List.mem_of_getElem? (i := 129) rfl)) rfl
theorem wt3_130 : (Jvm.Cond.methodLink "FlockCounts" (241 : Nat) ({ cls := "FlockCounts", name := "trialSees", desc := "(LFlockCounts$Sheet;I)Z" } : Jvm.MethodName)) ∈ wsL := wsL_t (tb_in3 (List.mem_of_getElem? (i := 130) rfl)) rfl
theorem wt3_132 : (Jvm.Cond.instanceMethod ({ cls := "FlockCounts", name := "trialSees", desc := "(LFlockCounts$Sheet;I)Z" } : Jvm.MethodName)) ∈ wsL := wsL_t (tb_in3 (List.mem_of_getElem? (i := 132) rfl)) rfl
theorem wt3_133 : (Jvm.Cond.code ({ cls := "FlockCounts", name := "trialSees", desc := "(LFlockCounts$Sheet;I)Z" } : Jvm.MethodName) prog_1_method_51_code (4 : Nat) (Option.some Jvm.ClassFile.FieldType.boolean)) ∈ wsL := wsL_t (tb_in3 (List.mem_of_getElem? (i := 133) rfl)) rfl
theorem wt3_134 : (Jvm.Cond.methodLink "FlockCountsLaw" (161 : Nat) ({ cls := "FlockCounts", name := "image", desc := "()I" } : Jvm.MethodName)) ∈ wsL := wsL_t (tb_in3 (List.mem_of_getElem? (i := 134) rfl)) rfl
theorem wt3_135 : (Jvm.Cond.instanceMethod ({ cls := "FlockCounts", name := "image", desc := "()I" } : Jvm.MethodName)) ∈ wsL := wsL_t (tb_in3 (List.mem_of_getElem? (i := 135) rfl)) rfl
theorem wt3_136 : (Jvm.Cond.selects "FlockCounts" ({ cls := "FlockCounts", name := "image", desc := "()I" } : Jvm.MethodName) ({ cls := "FlockCounts", name := "image", desc := "()I" } : Jvm.MethodName)) ∈ wsL := wsL_t (tb_in3 (List.mem_of_getElem? (i := 136) rfl)) rfl
theorem wt3_137 : (Jvm.Cond.code ({ cls := "FlockCounts", name := "image", desc := "()I" } : Jvm.MethodName) prog_1_method_37_code (1 : Nat) (Option.some Jvm.ClassFile.FieldType.int)) ∈ wsL := wsL_t (tb_in3 (List.mem_of_getElem? (i := 137) rfl)) rfl
theorem wt3_138 : (Jvm.Cond.methodLink "FlockCountsLaw" (165 : Nat) ({ cls := "FlockCounts", name := "undo", desc := "()I" } : Jvm.MethodName)) ∈ wsL := wsL_t (tb_in3 (List.mem_of_getElem? (i := 138) rfl)) rfl
theorem wt3_139 : (Jvm.Cond.instanceMethod ({ cls := "FlockCounts", name := "undo", desc := "()I" } : Jvm.MethodName)) ∈ wsL := wsL_t (tb_in3 (List.mem_of_getElem? (i := 139) rfl)) rfl
theorem wt3_140 : (Jvm.Cond.selects "FlockCounts" ({ cls := "FlockCounts", name := "undo", desc := "()I" } : Jvm.MethodName) ({ cls := "FlockCounts", name := "undo", desc := "()I" } : Jvm.MethodName)) ∈ wsL := wsL_t (tb_in3 (List.mem_of_getElem? (i := 140) rfl)) rfl
theorem wt3_141 : (Jvm.Cond.code ({ cls := "FlockCounts", name := "undo", desc := "()I" } : Jvm.MethodName) prog_1_method_38_code (1 : Nat) (Option.some Jvm.ClassFile.FieldType.int)) ∈ wsL := wsL_t (tb_in3 (List.mem_of_getElem? (i := 141) rfl)) rfl
theorem wt3_142 : (Jvm.Cond.methodLink "FlockCountsLaw" (169 : Nat) ({ cls := "FlockCounts", name := "tear", desc := "()I" } : Jvm.MethodName)) ∈ wsL := wsL_t (tb_in3 (List.mem_of_getElem? (i := 142) rfl)) rfl
theorem wt3_143 : (Jvm.Cond.instanceMethod ({ cls := "FlockCounts", name := "tear", desc := "()I" } : Jvm.MethodName)) ∈ wsL := wsL_t (tb_in3 (List.mem_of_getElem? (i := 143) rfl)) rfl
theorem wt3_144 : (Jvm.Cond.selects "FlockCounts" ({ cls := "FlockCounts", name := "tear", desc := "()I" } : Jvm.MethodName) ({ cls := "FlockCounts", name := "tear", desc := "()I" } : Jvm.MethodName)) ∈ wsL := wsL_t (tb_in3 (List.mem_of_getElem? (i := 144) rfl)) rfl
theorem wt3_145 : (Jvm.Cond.code ({ cls := "FlockCounts", name := "tear", desc := "()I" } : Jvm.MethodName) prog_1_method_39_code (2 : Nat) (Option.some Jvm.ClassFile.FieldType.int)) ∈ wsL := wsL_t (tb_in3 (List.mem_of_getElem? (i := 145) rfl)) rfl
theorem wt3_146 : (Jvm.Cond.methodLink "FlockCountsLaw" (173 : Nat) ({ cls := "FlockCounts", name := "count", desc := "(I)I" } : Jvm.MethodName)) ∈ wsL := wsL_t (tb_in3 (List.mem_of_getElem? (i := 146) rfl)) rfl
theorem wt3_147 : (Jvm.Cond.instanceMethod ({ cls := "FlockCounts", name := "count", desc := "(I)I" } : Jvm.MethodName)) ∈ wsL := wsL_t (tb_in3 (List.mem_of_getElem? (i := 147) rfl)) rfl
theorem wt3_148 : (Jvm.Cond.selects "FlockCounts" ({ cls := "FlockCounts", name := "count", desc := "(I)I" } : Jvm.MethodName) ({ cls := "FlockCounts", name := "count", desc := "(I)I" } : Jvm.MethodName)) ∈ wsL := wsL_t (tb_in3 (List.mem_of_getElem? (i := 148) rfl)) rfl
theorem wt3_149 : (Jvm.Cond.code ({ cls := "FlockCounts", name := "count", desc := "(I)I" } : Jvm.MethodName) prog_1_method_40_code (2 : Nat) (Option.some Jvm.ClassFile.FieldType.int)) ∈ wsL := wsL_t (tb_in3 (List.mem_of_getElem? (i := 149) rfl)) rfl
theorem wt3_150 : (Jvm.Cond.methodLink "FlockCounts" (249 : Nat) ({ cls := "FlockCounts$Fold", name := "seenByAll", desc := "()I" } : Jvm.MethodName)) ∈ wsL := wsL_t (tb_in3 (List.mem_of_getElem? (i := 150) rfl)) rfl
theorem wt3_151 : (Jvm.Cond.instanceMethod ({ cls := "FlockCounts$Fold", name := "seenByAll", desc := "()I" } : Jvm.MethodName)) ∈ wsL := wsL_t (tb_in3 (List.mem_of_getElem? (i := 151) rfl)) rfl
theorem wt3_152 : (Jvm.Cond.selects "FlockCounts$Fold" ({ cls := "FlockCounts$Fold", name := "seenByAll", desc := "()I" } : Jvm.MethodName) ({ cls := "FlockCounts$Fold", name := "seenByAll", desc := "()I" } : Jvm.MethodName)) ∈ wsL := wsL_t (tb_in3 (List.mem_of_getElem? (i := 152) rfl)) rfl
theorem wt3_153 : (Jvm.Cond.code ({ cls := "FlockCounts$Fold", name := "seenByAll", desc := "()I" } : Jvm.MethodName) prog_2_method_18_code (3 : Nat) (Option.some Jvm.ClassFile.FieldType.int)) ∈ wsL := wsL_t (tb_in3 (List.mem_of_getElem? (i := 153) rfl)) rfl
theorem wt3_154 : (Jvm.Cond.methodLink "FlockCountsLaw" (177 : Nat) ({ cls := "FlockCounts", name := "status", desc := "(I)I" } : Jvm.MethodName)) ∈ wsL := wsL_t (tb_in3 (List.mem_of_getElem? (i := 154) rfl)) rfl
theorem wt3_155 : (Jvm.Cond.instanceMethod ({ cls := "FlockCounts", name := "status", desc := "(I)I" } : Jvm.MethodName)) ∈ wsL := wsL_t (tb_in3 (List.mem_of_getElem? (i := 155) rfl)) rfl
theorem wt3_156 : (Jvm.Cond.selects "FlockCounts" ({ cls := "FlockCounts", name := "status", desc := "(I)I" } : Jvm.MethodName) ({ cls := "FlockCounts", name := "status", desc := "(I)I" } : Jvm.MethodName)) ∈ wsL := wsL_t (tb_in3 (List.mem_of_getElem? (i := 156) rfl)) rfl
theorem wt3_157 : (Jvm.Cond.code ({ cls := "FlockCounts", name := "status", desc := "(I)I" } : Jvm.MethodName) prog_1_method_41_code (7 : Nat) (Option.some Jvm.ClassFile.FieldType.int)) ∈ wsL := wsL_t (tb_in3 (List.mem_of_getElem? (i := 157) rfl)) rfl
theorem wt3_158 : (Jvm.Cond.classLink "FlockCountsLaw" (10 : Nat) "FlockCountsModel") ∈ wsL := wsL_t (tb_in3 (List.mem_of_getElem? (i := 158) rfl)) rfl
theorem wt3_159 : (Jvm.Cond.instantiable "FlockCountsModel" (18 : Nat)) ∈ wsL := wsL_t (tb_in3 (List.mem_of_getElem? (i := 159) rfl)) rfl
theorem wt3_160 : (Jvm.Cond.methodLink "FlockCountsLaw" (12 : Nat) ({ cls := "FlockCountsModel", name := "<init>", desc := "()V" } : Jvm.MethodName)) ∈ wsL := wsL_t (tb_in3 (List.mem_of_getElem? (i := 160) rfl)) rfl
theorem wt3_161 : (Jvm.Cond.instanceMethod ({ cls := "FlockCountsModel", name := "<init>", desc := "()V" } : Jvm.MethodName)) ∈ wsL := wsL_t (tb_in3 (List.mem_of_getElem? (i := 161) rfl)) rfl
theorem wt3_162 : (Jvm.Cond.code ({ cls := "FlockCountsModel", name := "<init>", desc := "()V" } : Jvm.MethodName) prog_7_method_1_code (1 : Nat) (Option.none : Option Jvm.ClassFile.FieldType)) ∈ wsL := wsL_t (tb_in3 (List.mem_of_getElem? (i := 162) rfl)) rfl
theorem wt3_163 : (Jvm.Cond.methodLink "FlockCountsModel" (1 : Nat) ({ cls := "java/lang/Object", name := "<init>", desc := "()V" } : Jvm.MethodName)) ∈ wsL := wsL_t (tb_in3 (List.mem_of_getElem? (i := 163) rfl)) rfl
theorem wt3_164 : (Jvm.Cond.fieldLink "FlockCountsModel" (7 : Nat) "FlockCountsModel" "s" "[I") ∈ wsL := wsL_t (tb_in3 (List.mem_of_getElem? (i := 164) rfl)) rfl
theorem wt3_165 : (Jvm.Cond.fieldLink "FlockCountsModel" (13 : Nat) "FlockCountsModel" "keptS" "[I") ∈ wsL := wsL_t (tb_in3 (List.mem_of_getElem? (i := 165) rfl)) rfl
theorem wt3_166 : (Jvm.Cond.fieldLink "FlockCountsModel" (16 : Nat) "FlockCountsModel" "other" "[I") ∈ wsL := wsL_t (tb_in3 (List.mem_of_getElem? (i := 166) rfl)) rfl
theorem wt3_167 : (Jvm.Cond.fieldLink "FlockCountsModel" (19 : Nat) "FlockCountsModel" "aside" "[I") ∈ wsL := wsL_t (tb_in3 (List.mem_of_getElem? (i := 167) rfl)) rfl
theorem wt3_168 : (Jvm.Cond.fieldLink "FlockCountsModel" (22 : Nat) "FlockCountsModel" "statuses" "[I") ∈ wsL := wsL_t (tb_in3 (List.mem_of_getElem? (i := 168) rfl)) rfl
theorem wt3_169 : (Jvm.Cond.fieldLink "FlockCountsModel" (317 : Nat) "FlockCountsModel" "isKept" "Z") ∈ wsL := wsL_t (tb_in3 (List.mem_of_getElem? (i := 169) rfl)) rfl
theorem wt3_170 : (Jvm.Cond.fieldLink "FlockCountsModel" (170 : Nat) "FlockCountsModel" "best" "I") ∈ wsL := wsL_t (tb_in3 (List.mem_of_getElem? (i := 170) rfl)) rfl
theorem wt3_171 : (Jvm.Cond.fieldLink "FlockCountsModel" (174 : Nat) "FlockCountsModel" "soonest" "I") ∈ wsL := wsL_t (tb_in3 (List.mem_of_getElem? (i := 171) rfl)) rfl
theorem wt3_172 : (Jvm.Cond.fieldLink "FlockCountsModel" (25 : Nat) "FlockCountsModel" "tape" "[I") ∈ wsL := wsL_t (tb_in3 (List.mem_of_getElem? (i := 172) rfl)) rfl
theorem wt3_173 : (Jvm.Cond.fieldLink "FlockCountsModel" (196 : Nat) "FlockCountsModel" "taped" "I") ∈ wsL := wsL_t (tb_in3 (List.mem_of_getElem? (i := 173) rfl)) rfl
theorem wt3_174 : (Jvm.Cond.fieldLink "FlockCountsModel" (210 : Nat) "FlockCountsModel" "from" "I") ∈ wsL := wsL_t (tb_in3 (List.mem_of_getElem? (i := 174) rfl)) rfl
theorem wt3_175 : (Jvm.Cond.fieldLink "FlockCountsModel" (207 : Nat) "FlockCountsModel" "to" "I") ∈ wsL := wsL_t (tb_in3 (List.mem_of_getElem? (i := 175) rfl)) rfl
theorem wt3_176 : (Jvm.Cond.fieldLink "FlockCountsModel" (233 : Nat) "FlockCountsModel" "value" "I") ∈ wsL := wsL_t (tb_in3 (List.mem_of_getElem? (i := 176) rfl)) rfl
theorem wt3_177 : (Jvm.Cond.fieldLink "FlockCountsModel" (222 : Nat) "FlockCountsModel" "isWrong" "Z") ∈ wsL := wsL_t (tb_in3 (List.mem_of_getElem? (i := 177) rfl)) rfl
theorem wt3_178 : (Jvm.Cond.fieldLink "FlockCountsModel" (28 : Nat) "FlockCountsModel" "bitsOf" "[I") ∈ wsL := wsL_t (tb_in3 (List.mem_of_getElem? (i := 178) rfl)) rfl
theorem wt3_179 : (Jvm.Cond.fieldLink "FlockCountsModel" (31 : Nat) "FlockCountsModel" "sizeOf" "[I") ∈ wsL := wsL_t (tb_in3 (List.mem_of_getElem? (i := 179) rfl)) rfl
theorem wt3_180 : (Jvm.Cond.fieldLink "FlockCountsModel" (34 : Nat) "FlockCountsModel" "numbers" "[J") ∈ wsL := wsL_t (tb_in3 (List.mem_of_getElem? (i := 180) rfl)) rfl
theorem wt3_181 : (Jvm.Cond.fieldLink "FlockCountsModel" (38 : Nat) "FlockCountsModel" "moved" "[J") ∈ wsL := wsL_t (tb_in3 (List.mem_of_getElem? (i := 181) rfl)) rfl
theorem wt3_182 : (Jvm.Cond.laysFinal "FlockCountsModel" "FlockCountsModel" "s" "[I") ∈ wsL := wsL_t (tb_in3 (List.mem_of_getElem? (i := 182) rfl)) rfl
theorem wt3_184 : (Jvm.Cond.laysFinal "FlockCountsModel" "FlockCountsModel" "keptS" "[I") ∈ wsL := wsL_t (tb_in3 (List.mem_of_getElem? (i := 184) rfl)) rfl
theorem wt3_186 : (Jvm.Cond.laysFinal "FlockCountsModel" "FlockCountsModel" "other" "[I") ∈ wsL := wsL_t (tb_in3 (List.mem_of_getElem? (i := 186) rfl)) rfl
theorem wt3_188 : (Jvm.Cond.laysFinal "FlockCountsModel" "FlockCountsModel" "aside" "[I") ∈ wsL := wsL_t (tb_in3 (List.mem_of_getElem? (i := 188) rfl)) rfl
theorem wt3_190 : (Jvm.Cond.laysFinal "FlockCountsModel" "FlockCountsModel" "statuses" "[I") ∈ wsL := wsL_t (tb_in3 (List.mem_of_getElem? (i := 190) rfl)) rfl
theorem wt3_192 : (Jvm.Cond.lays "FlockCountsModel" "FlockCountsModel" "isKept" "Z") ∈ wsL := wsL_t (tb_in3 (List.mem_of_getElem? (i := 192) rfl)) rfl
theorem wt3_194 : (Jvm.Cond.lays "FlockCountsModel" "FlockCountsModel" "best" "I") ∈ wsL := wsL_t (tb_in3 (List.mem_of_getElem? (i := 194) rfl)) rfl
theorem wt3_196 : (Jvm.Cond.lays "FlockCountsModel" "FlockCountsModel" "soonest" "I") ∈ wsL := wsL_t (tb_in3 (List.mem_of_getElem? (i := 196) rfl)) rfl
theorem wt3_198 : (Jvm.Cond.laysFinal "FlockCountsModel" "FlockCountsModel" "tape" "[I") ∈ wsL := wsL_t (tb_in3 (List.mem_of_getElem? (i := 198) rfl)) rfl
theorem wt3_200 : (Jvm.Cond.lays "FlockCountsModel" "FlockCountsModel" "taped" "I") ∈ wsL := wsL_t (tb_in3 (List.mem_of_getElem? (i := 200) rfl)) rfl
theorem wt3_202 : (Jvm.Cond.lays "FlockCountsModel" "FlockCountsModel" "from" "I") ∈ wsL := wsL_t (tb_in3 (List.mem_of_getElem? (i := 202) rfl)) rfl
theorem wt3_204 : (Jvm.Cond.lays "FlockCountsModel" "FlockCountsModel" "to" "I") ∈ wsL := wsL_t (tb_in3 (List.mem_of_getElem? (i := 204) rfl)) rfl
theorem wt3_206 : (Jvm.Cond.lays "FlockCountsModel" "FlockCountsModel" "value" "I") ∈ wsL := wsL_t (tb_in3 (List.mem_of_getElem? (i := 206) rfl)) rfl
theorem wt3_208 : (Jvm.Cond.lays "FlockCountsModel" "FlockCountsModel" "isWrong" "Z") ∈ wsL := wsL_t (tb_in3 (List.mem_of_getElem? (i := 208) rfl)) rfl
theorem wt3_210 : (Jvm.Cond.laysFinal "FlockCountsModel" "FlockCountsModel" "bitsOf" "[I") ∈ wsL := wsL_t (tb_in3 (List.mem_of_getElem? (i := 210) rfl)) rfl
theorem wt3_212 : (Jvm.Cond.laysFinal "FlockCountsModel" "FlockCountsModel" "sizeOf" "[I") ∈ wsL := wsL_t (tb_in3 (List.mem_of_getElem? (i := 212) rfl)) rfl
theorem wt3_214 : (Jvm.Cond.laysFinal "FlockCountsModel" "FlockCountsModel" "numbers" "[J") ∈ wsL := wsL_t (tb_in3 (List.mem_of_getElem? (i := 214) rfl)) rfl
theorem wt3_216 : (Jvm.Cond.laysFinal "FlockCountsModel" "FlockCountsModel" "moved" "[J") ∈ wsL := wsL_t (tb_in3 (List.mem_of_getElem? (i := 216) rfl)) rfl
theorem wt3_219 : (Jvm.Cond.methodLink "FlockCountsLaw" (17 : Nat) ({ cls := "FlockCountsModel", name := "man", desc := "(I)I" } : Jvm.MethodName)) ∈ wsL := wsL_t (tb_in3 (List.mem_of_getElem? (i := 219) rfl)) rfl
theorem wt3_220 : (Jvm.Cond.instanceMethod ({ cls := "FlockCountsModel", name := "man", desc := "(I)I" } : Jvm.MethodName)) ∈ wsL := wsL_t (tb_in3 (List.mem_of_getElem? (i := 220) rfl)) rfl
theorem wt3_221 : (Jvm.Cond.selects "FlockCountsModel" ({ cls := "FlockCountsModel", name := "man", desc := "(I)I" } : Jvm.MethodName) ({ cls := "FlockCountsModel", name := "man", desc := "(I)I" } : Jvm.MethodName)) ∈ wsL := wsL_t (tb_in3 (List.mem_of_getElem? (i := 221) rfl)) rfl
theorem wt3_222 : (Jvm.Cond.code ({ cls := "FlockCountsModel", name := "man", desc := "(I)I" } : Jvm.MethodName) prog_7_method_20_code (2 : Nat) (Option.some Jvm.ClassFile.FieldType.int)) ∈ wsL := wsL_t (tb_in3 (List.mem_of_getElem? (i := 222) rfl)) rfl
theorem wt3_223 : (Jvm.Cond.methodLink "FlockCountsModel" (57 : Nat) ({ cls := "FlockCountsModel", name := "isGuise", desc := "(I)Z" } : Jvm.MethodName)) ∈ wsL := wsL_t (tb_in3 (List.mem_of_getElem? (i := 223) rfl)) rfl
theorem wt3_224 : (Jvm.Cond.static ({ cls := "FlockCountsModel", name := "isGuise", desc := "(I)Z" } : Jvm.MethodName)) ∈ wsL := wsL_t (tb_in3 (List.mem_of_getElem? (i := 224) rfl)) rfl
theorem wt3_225 : (Jvm.Cond.code ({ cls := "FlockCountsModel", name := "isGuise", desc := "(I)Z" } : Jvm.MethodName) prog_7_method_12_code (1 : Nat) (Option.some Jvm.ClassFile.FieldType.boolean)) ∈ wsL := wsL_t (tb_in3 (List.mem_of_getElem? (i := 225) rfl)) rfl
theorem wt3_226 : (Jvm.Cond.constantLong "FlockCountsModel" (48 : Nat) (7 : Int64)) ∈ wsL := wsL_t (tb_in3 (List.mem_of_getElem? (i := 226) rfl)) rfl
theorem wt3_227 : (Jvm.Cond.methodLink "FlockCountsModel" (42 : Nat) ({ cls := "FlockCountsModel", name := "in", desc := "(JJJ)Z" } : Jvm.MethodName)) ∈ wsL := wsL_t (tb_in3 (List.mem_of_getElem? (i := 227) rfl)) rfl
theorem wt3_228 : (Jvm.Cond.static ({ cls := "FlockCountsModel", name := "in", desc := "(JJJ)Z" } : Jvm.MethodName)) ∈ wsL := wsL_t (tb_in3 (List.mem_of_getElem? (i := 228) rfl)) rfl
theorem wt3_229 : (Jvm.Cond.code ({ cls := "FlockCountsModel", name := "in", desc := "(JJJ)Z" } : Jvm.MethodName) prog_7_method_2_code (6 : Nat) (Option.some Jvm.ClassFile.FieldType.boolean)) ∈ wsL := wsL_t (tb_in3 (List.mem_of_getElem? (i := 229) rfl)) rfl
theorem wt3_230 : (Jvm.Cond.constant "FlockCountsModel" (41 : Nat) (-1000000001 : Int32)) ∈ wsL := wsL_t (tb_in3 (List.mem_of_getElem? (i := 230) rfl)) rfl
theorem wt3_231 : (Jvm.Cond.methodLink "FlockCountsModel" (61 : Nat) ({ cls := "FlockCountsModel", name := "finds", desc := "(I)I" } : Jvm.MethodName)) ∈ wsL := wsL_t (tb_in3 (List.mem_of_getElem? (i := 231) rfl)) rfl
theorem wt3_233 : (Jvm.Cond.instanceMethod ({ cls := "FlockCountsModel", name := "finds", desc := "(I)I" } : Jvm.MethodName)) ∈ wsL := wsL_t (tb_in3 (List.mem_of_getElem? (i := 233) rfl)) rfl
theorem wt3_234 : (Jvm.Cond.code ({ cls := "FlockCountsModel", name := "finds", desc := "(I)I" } : Jvm.MethodName) prog_7_method_3_code (2 : Nat) (Option.some Jvm.ClassFile.FieldType.int)) ∈ wsL := wsL_t (tb_in3 (List.mem_of_getElem? (i := 234) rfl)) rfl
theorem wt3_235 : (Jvm.Cond.constant "FlockCountsModel" (65 : Nat) (-1000000002 : Int32)) ∈ wsL := wsL_t (tb_in3 (List.mem_of_getElem? (i := 235) rfl)) rfl
theorem wt3_236 : (Jvm.Cond.methodLink "FlockCountsModel" (66 : Nat) ({ cls := "FlockCountsModel", name := "addsMan", desc := "(I)I" } : Jvm.MethodName)) ∈ wsL := wsL_t (tb_in3 (List.mem_of_getElem? (i := 236) rfl)) rfl
theorem wt3_238 : (Jvm.Cond.instanceMethod ({ cls := "FlockCountsModel", name := "addsMan", desc := "(I)I" } : Jvm.MethodName)) ∈ wsL := wsL_t (tb_in3 (List.mem_of_getElem? (i := 238) rfl)) rfl
theorem wt3_239 : (Jvm.Cond.code ({ cls := "FlockCountsModel", name := "addsMan", desc := "(I)I" } : Jvm.MethodName) prog_7_method_19_code (3 : Nat) (Option.some Jvm.ClassFile.FieldType.int)) ∈ wsL := wsL_t (tb_in3 (List.mem_of_getElem? (i := 239) rfl)) rfl
theorem wt4_0 : (Jvm.Cond.methodLink "FlockCountsModel" (50 : Nat) ({ cls := "FlockCountsModel", name := "placeOf", desc := "(II)I" } : Jvm.MethodName)) ∈ wsL := wsL_t (tb_in4 (List.mem_of_getElem? (i := 0) rfl)) rfl
theorem wt4_1 : (Jvm.Cond.static ({ cls := "FlockCountsModel", name := "placeOf", desc := "(II)I" } : Jvm.MethodName)) ∈ wsL := wsL_t (tb_in4 (List.mem_of_getElem? (i := 1) rfl)) rfl
theorem wt4_2 : (Jvm.Cond.code ({ cls := "FlockCountsModel", name := "placeOf", desc := "(II)I" } : Jvm.MethodName) prog_7_method_13_code (2 : Nat) (Option.some Jvm.ClassFile.FieldType.int)) ∈ wsL := wsL_t (tb_in4 (List.mem_of_getElem? (i := 2) rfl)) rfl
theorem wt4_3 : (Jvm.Cond.methodLink "FlockCountsLaw" (22 : Nat) ({ cls := "FlockCountsModel", name := "manOf", desc := "(II)I" } : Jvm.MethodName)) ∈ wsL := wsL_t (tb_in4 (List.mem_of_getElem? (i := 3) rfl)) rfl
theorem wt4_4 : (Jvm.Cond.instanceMethod ({ cls := "FlockCountsModel", name := "manOf", desc := "(II)I" } : Jvm.MethodName)) ∈ wsL := wsL_t (tb_in4 (List.mem_of_getElem? (i := 4) rfl)) rfl
theorem wt4_5 : (Jvm.Cond.selects "FlockCountsModel" ({ cls := "FlockCountsModel", name := "manOf", desc := "(II)I" } : Jvm.MethodName) ({ cls := "FlockCountsModel", name := "manOf", desc := "(II)I" } : Jvm.MethodName)) ∈ wsL := wsL_t (tb_in4 (List.mem_of_getElem? (i := 5) rfl)) rfl
theorem wt4_6 : (Jvm.Cond.code ({ cls := "FlockCountsModel", name := "manOf", desc := "(II)I" } : Jvm.MethodName) prog_7_method_21_code (3 : Nat) (Option.some Jvm.ClassFile.FieldType.int)) ∈ wsL := wsL_t (tb_in4 (List.mem_of_getElem? (i := 6) rfl)) rfl
theorem wt4_7 : (Jvm.Cond.methodLink "FlockCountsModel" (69 : Nat) ({ cls := "FlockCountsModel", name := "isMan", desc := "(I)Z" } : Jvm.MethodName)) ∈ wsL := wsL_t (tb_in4 (List.mem_of_getElem? (i := 7) rfl)) rfl
theorem wt4_9 : (Jvm.Cond.instanceMethod ({ cls := "FlockCountsModel", name := "isMan", desc := "(I)Z" } : Jvm.MethodName)) ∈ wsL := wsL_t (tb_in4 (List.mem_of_getElem? (i := 9) rfl)) rfl
theorem wt4_10 : (Jvm.Cond.code ({ cls := "FlockCountsModel", name := "isMan", desc := "(I)Z" } : Jvm.MethodName) prog_7_method_9_code (2 : Nat) (Option.some Jvm.ClassFile.FieldType.boolean)) ∈ wsL := wsL_t (tb_in4 (List.mem_of_getElem? (i := 10) rfl)) rfl
theorem wt4_11 : (Jvm.Cond.methodLink "FlockCountsModel" (72 : Nat) ({ cls := "FlockCountsModel", name := "his", desc := "(II)I" } : Jvm.MethodName)) ∈ wsL := wsL_t (tb_in4 (List.mem_of_getElem? (i := 11) rfl)) rfl
theorem wt4_13 : (Jvm.Cond.instanceMethod ({ cls := "FlockCountsModel", name := "his", desc := "(II)I" } : Jvm.MethodName)) ∈ wsL := wsL_t (tb_in4 (List.mem_of_getElem? (i := 13) rfl)) rfl
theorem wt4_14 : (Jvm.Cond.code ({ cls := "FlockCountsModel", name := "his", desc := "(II)I" } : Jvm.MethodName) prog_7_method_15_code (3 : Nat) (Option.some Jvm.ClassFile.FieldType.int)) ∈ wsL := wsL_t (tb_in4 (List.mem_of_getElem? (i := 14) rfl)) rfl
theorem wt4_15 : (Jvm.Cond.methodLink "FlockCountsLaw" (27 : Nat) ({ cls := "FlockCountsModel", name := "dress", desc := "(III)I" } : Jvm.MethodName)) ∈ wsL := wsL_t (tb_in4 (List.mem_of_getElem? (i := 15) rfl)) rfl
theorem wt4_16 : (Jvm.Cond.instanceMethod ({ cls := "FlockCountsModel", name := "dress", desc := "(III)I" } : Jvm.MethodName)) ∈ wsL := wsL_t (tb_in4 (List.mem_of_getElem? (i := 16) rfl)) rfl
theorem wt4_17 : (Jvm.Cond.selects "FlockCountsModel" ({ cls := "FlockCountsModel", name := "dress", desc := "(III)I" } : Jvm.MethodName) ({ cls := "FlockCountsModel", name := "dress", desc := "(III)I" } : Jvm.MethodName)) ∈ wsL := wsL_t (tb_in4 (List.mem_of_getElem? (i := 17) rfl)) rfl
theorem wt4_18 : (Jvm.Cond.code ({ cls := "FlockCountsModel", name := "dress", desc := "(III)I" } : Jvm.MethodName) prog_7_method_22_code (5 : Nat) (Option.some Jvm.ClassFile.FieldType.int)) ∈ wsL := wsL_t (tb_in4 (List.mem_of_getElem? (i := 18) rfl)) rfl
theorem wt4_19 : (Jvm.Cond.constantLong "FlockCountsModel" (75 : Nat) (99 : Int64)) ∈ wsL := wsL_t (tb_in4 (List.mem_of_getElem? (i := 19) rfl)) rfl
theorem wt4_20 : (Jvm.Cond.methodLink "FlockCountsModel" (77 : Nat) ({ cls := "FlockCountsModel", name := "becomes", desc := "(II)I" } : Jvm.MethodName)) ∈ wsL := wsL_t (tb_in4 (List.mem_of_getElem? (i := 20) rfl)) rfl
theorem wt4_22 : (Jvm.Cond.instanceMethod ({ cls := "FlockCountsModel", name := "becomes", desc := "(II)I" } : Jvm.MethodName)) ∈ wsL := wsL_t (tb_in4 (List.mem_of_getElem? (i := 22) rfl)) rfl
theorem wt4_23 : (Jvm.Cond.code ({ cls := "FlockCountsModel", name := "becomes", desc := "(II)I" } : Jvm.MethodName) prog_7_method_8_code (4 : Nat) (Option.some Jvm.ClassFile.FieldType.int)) ∈ wsL := wsL_t (tb_in4 (List.mem_of_getElem? (i := 23) rfl)) rfl
theorem wt4_24 : (Jvm.Cond.methodLink "FlockCountsLaw" (31 : Nat) ({ cls := "FlockCountsModel", name := "first", desc := "(I)I" } : Jvm.MethodName)) ∈ wsL := wsL_t (tb_in4 (List.mem_of_getElem? (i := 24) rfl)) rfl
theorem wt4_25 : (Jvm.Cond.instanceMethod ({ cls := "FlockCountsModel", name := "first", desc := "(I)I" } : Jvm.MethodName)) ∈ wsL := wsL_t (tb_in4 (List.mem_of_getElem? (i := 25) rfl)) rfl
theorem wt4_26 : (Jvm.Cond.selects "FlockCountsModel" ({ cls := "FlockCountsModel", name := "first", desc := "(I)I" } : Jvm.MethodName) ({ cls := "FlockCountsModel", name := "first", desc := "(I)I" } : Jvm.MethodName)) ∈ wsL := wsL_t (tb_in4 (List.mem_of_getElem? (i := 26) rfl)) rfl
theorem wt4_27 : (Jvm.Cond.code ({ cls := "FlockCountsModel", name := "first", desc := "(I)I" } : Jvm.MethodName) prog_7_method_23_code (2 : Nat) (Option.some Jvm.ClassFile.FieldType.int)) ∈ wsL := wsL_t (tb_in4 (List.mem_of_getElem? (i := 27) rfl)) rfl
theorem wt4_28 : (Jvm.Cond.methodLink "FlockCountsLaw" (36 : Nat) ({ cls := "FlockCountsModel", name := "goesHome", desc := "()I" } : Jvm.MethodName)) ∈ wsL := wsL_t (tb_in4 (List.mem_of_getElem? (i := 28) rfl)) rfl
theorem wt4_29 : (Jvm.Cond.instanceMethod ({ cls := "FlockCountsModel", name := "goesHome", desc := "()I" } : Jvm.MethodName)) ∈ wsL := wsL_t (tb_in4 (List.mem_of_getElem? (i := 29) rfl)) rfl
theorem wt4_30 : (Jvm.Cond.selects "FlockCountsModel" ({ cls := "FlockCountsModel", name := "goesHome", desc := "()I" } : Jvm.MethodName) ({ cls := "FlockCountsModel", name := "goesHome", desc := "()I" } : Jvm.MethodName)) ∈ wsL := wsL_t (tb_in4 (List.mem_of_getElem? (i := 30) rfl)) rfl
theorem wt4_31 : (Jvm.Cond.code ({ cls := "FlockCountsModel", name := "goesHome", desc := "()I" } : Jvm.MethodName) prog_7_method_24_code (1 : Nat) (Option.some Jvm.ClassFile.FieldType.int)) ∈ wsL := wsL_t (tb_in4 (List.mem_of_getElem? (i := 31) rfl)) rfl
theorem wt4_32 : (Jvm.Cond.constant "FlockCountsModel" (80 : Nat) (-1000000004 : Int32)) ∈ wsL := wsL_t (tb_in4 (List.mem_of_getElem? (i := 32) rfl)) rfl
theorem wt4_33 : (Jvm.Cond.methodLink "FlockCountsLaw" (40 : Nat) ({ cls := "FlockCountsModel", name := "sheep", desc := "(I)I" } : Jvm.MethodName)) ∈ wsL := wsL_t (tb_in4 (List.mem_of_getElem? (i := 33) rfl)) rfl
theorem wt4_34 : (Jvm.Cond.instanceMethod ({ cls := "FlockCountsModel", name := "sheep", desc := "(I)I" } : Jvm.MethodName)) ∈ wsL := wsL_t (tb_in4 (List.mem_of_getElem? (i := 34) rfl)) rfl
theorem wt4_35 : (Jvm.Cond.selects "FlockCountsModel" ({ cls := "FlockCountsModel", name := "sheep", desc := "(I)I" } : Jvm.MethodName) ({ cls := "FlockCountsModel", name := "sheep", desc := "(I)I" } : Jvm.MethodName)) ∈ wsL := wsL_t (tb_in4 (List.mem_of_getElem? (i := 35) rfl)) rfl
theorem wt4_36 : (Jvm.Cond.code ({ cls := "FlockCountsModel", name := "sheep", desc := "(I)I" } : Jvm.MethodName) prog_7_method_26_code (2 : Nat) (Option.some Jvm.ClassFile.FieldType.int)) ∈ wsL := wsL_t (tb_in4 (List.mem_of_getElem? (i := 36) rfl)) rfl
theorem wt4_37 : (Jvm.Cond.methodLink "FlockCountsModel" (81 : Nat) ({ cls := "FlockCountsModel", name := "isKind", desc := "(I)Z" } : Jvm.MethodName)) ∈ wsL := wsL_t (tb_in4 (List.mem_of_getElem? (i := 37) rfl)) rfl
theorem wt4_38 : (Jvm.Cond.static ({ cls := "FlockCountsModel", name := "isKind", desc := "(I)Z" } : Jvm.MethodName)) ∈ wsL := wsL_t (tb_in4 (List.mem_of_getElem? (i := 38) rfl)) rfl
theorem wt4_39 : (Jvm.Cond.code ({ cls := "FlockCountsModel", name := "isKind", desc := "(I)Z" } : Jvm.MethodName) prog_7_method_11_code (1 : Nat) (Option.some Jvm.ClassFile.FieldType.boolean)) ∈ wsL := wsL_t (tb_in4 (List.mem_of_getElem? (i := 39) rfl)) rfl
theorem wt4_40 : (Jvm.Cond.constantLong "FlockCountsModel" (46 : Nat) (5 : Int64)) ∈ wsL := wsL_t (tb_in4 (List.mem_of_getElem? (i := 40) rfl)) rfl
theorem wt4_41 : (Jvm.Cond.methodLink "FlockCountsModel" (84 : Nat) ({ cls := "FlockCountsModel", name := "adds", desc := "(I)I" } : Jvm.MethodName)) ∈ wsL := wsL_t (tb_in4 (List.mem_of_getElem? (i := 41) rfl)) rfl
theorem wt4_43 : (Jvm.Cond.instanceMethod ({ cls := "FlockCountsModel", name := "adds", desc := "(I)I" } : Jvm.MethodName)) ∈ wsL := wsL_t (tb_in4 (List.mem_of_getElem? (i := 43) rfl)) rfl
theorem wt4_44 : (Jvm.Cond.code ({ cls := "FlockCountsModel", name := "adds", desc := "(I)I" } : Jvm.MethodName) prog_7_method_25_code (3 : Nat) (Option.some Jvm.ClassFile.FieldType.int)) ∈ wsL := wsL_t (tb_in4 (List.mem_of_getElem? (i := 44) rfl)) rfl
theorem wt4_45 : (Jvm.Cond.methodLink "FlockCountsModel" (54 : Nat) ({ cls := "FlockCountsModel", name := "spotOf", desc := "(II)I" } : Jvm.MethodName)) ∈ wsL := wsL_t (tb_in4 (List.mem_of_getElem? (i := 45) rfl)) rfl
theorem wt4_46 : (Jvm.Cond.static ({ cls := "FlockCountsModel", name := "spotOf", desc := "(II)I" } : Jvm.MethodName)) ∈ wsL := wsL_t (tb_in4 (List.mem_of_getElem? (i := 46) rfl)) rfl
theorem wt4_47 : (Jvm.Cond.code ({ cls := "FlockCountsModel", name := "spotOf", desc := "(II)I" } : Jvm.MethodName) prog_7_method_14_code (2 : Nat) (Option.some Jvm.ClassFile.FieldType.int)) ∈ wsL := wsL_t (tb_in4 (List.mem_of_getElem? (i := 47) rfl)) rfl
theorem wt4_48 : (Jvm.Cond.methodLink "FlockCountsLaw" (44 : Nat) ({ cls := "FlockCountsModel", name := "of", desc := "(II)I" } : Jvm.MethodName)) ∈ wsL := wsL_t (tb_in4 (List.mem_of_getElem? (i := 48) rfl)) rfl
theorem wt4_49 : (Jvm.Cond.instanceMethod ({ cls := "FlockCountsModel", name := "of", desc := "(II)I" } : Jvm.MethodName)) ∈ wsL := wsL_t (tb_in4 (List.mem_of_getElem? (i := 49) rfl)) rfl
theorem wt4_50 : (Jvm.Cond.selects "FlockCountsModel" ({ cls := "FlockCountsModel", name := "of", desc := "(II)I" } : Jvm.MethodName) ({ cls := "FlockCountsModel", name := "of", desc := "(II)I" } : Jvm.MethodName)) ∈ wsL := wsL_t (tb_in4 (List.mem_of_getElem? (i := 50) rfl)) rfl
theorem wt4_51 : (Jvm.Cond.code ({ cls := "FlockCountsModel", name := "of", desc := "(II)I" } : Jvm.MethodName) prog_7_method_31_code (3 : Nat) (Option.some Jvm.ClassFile.FieldType.int)) ∈ wsL := wsL_t (tb_in4 (List.mem_of_getElem? (i := 51) rfl)) rfl
theorem wt4_52 : (Jvm.Cond.methodLink "FlockCountsModel" (93 : Nat) ({ cls := "FlockCountsModel", name := "isSheep", desc := "(I)Z" } : Jvm.MethodName)) ∈ wsL := wsL_t (tb_in4 (List.mem_of_getElem? (i := 52) rfl)) rfl
theorem wt4_54 : (Jvm.Cond.instanceMethod ({ cls := "FlockCountsModel", name := "isSheep", desc := "(I)Z" } : Jvm.MethodName)) ∈ wsL := wsL_t (tb_in4 (List.mem_of_getElem? (i := 54) rfl)) rfl
theorem wt4_55 : (Jvm.Cond.code ({ cls := "FlockCountsModel", name := "isSheep", desc := "(I)Z" } : Jvm.MethodName) prog_7_method_10_code (2 : Nat) (Option.some Jvm.ClassFile.FieldType.boolean)) ∈ wsL := wsL_t (tb_in4 (List.mem_of_getElem? (i := 55) rfl)) rfl
theorem wt4_56 : (Jvm.Cond.methodLink "FlockCountsModel" (96 : Nat) ({ cls := "FlockCountsModel", name := "isAsleep", desc := "(I)Z" } : Jvm.MethodName)) ∈ wsL := wsL_t (tb_in4 (List.mem_of_getElem? (i := 56) rfl)) rfl
theorem wt4_58 : (Jvm.Cond.instanceMethod ({ cls := "FlockCountsModel", name := "isAsleep", desc := "(I)Z" } : Jvm.MethodName)) ∈ wsL := wsL_t (tb_in4 (List.mem_of_getElem? (i := 58) rfl)) rfl
theorem wt4_59 : (Jvm.Cond.code ({ cls := "FlockCountsModel", name := "isAsleep", desc := "(I)Z" } : Jvm.MethodName) prog_7_method_27_code (2 : Nat) (Option.some Jvm.ClassFile.FieldType.boolean)) ∈ wsL := wsL_t (tb_in4 (List.mem_of_getElem? (i := 59) rfl)) rfl
theorem wt4_60 : (Jvm.Cond.methodLink "FlockCountsModel" (87 : Nat) ({ cls := "FlockCountsModel", name := "its", desc := "(II)I" } : Jvm.MethodName)) ∈ wsL := wsL_t (tb_in4 (List.mem_of_getElem? (i := 60) rfl)) rfl
theorem wt4_62 : (Jvm.Cond.instanceMethod ({ cls := "FlockCountsModel", name := "its", desc := "(II)I" } : Jvm.MethodName)) ∈ wsL := wsL_t (tb_in4 (List.mem_of_getElem? (i := 62) rfl)) rfl
theorem wt4_63 : (Jvm.Cond.code ({ cls := "FlockCountsModel", name := "its", desc := "(II)I" } : Jvm.MethodName) prog_7_method_16_code (3 : Nat) (Option.some Jvm.ClassFile.FieldType.int)) ∈ wsL := wsL_t (tb_in4 (List.mem_of_getElem? (i := 63) rfl)) rfl
theorem wt4_64 : (Jvm.Cond.methodLink "FlockCountsModel" (99 : Nat) ({ cls := "FlockCountsModel", name := "wakesOf", desc := "(I)I" } : Jvm.MethodName)) ∈ wsL := wsL_t (tb_in4 (List.mem_of_getElem? (i := 64) rfl)) rfl
theorem wt4_66 : (Jvm.Cond.instanceMethod ({ cls := "FlockCountsModel", name := "wakesOf", desc := "(I)I" } : Jvm.MethodName)) ∈ wsL := wsL_t (tb_in4 (List.mem_of_getElem? (i := 66) rfl)) rfl
theorem wt4_67 : (Jvm.Cond.code ({ cls := "FlockCountsModel", name := "wakesOf", desc := "(I)I" } : Jvm.MethodName) prog_7_method_28_code (3 : Nat) (Option.some Jvm.ClassFile.FieldType.int)) ∈ wsL := wsL_t (tb_in4 (List.mem_of_getElem? (i := 67) rfl)) rfl
theorem wt4_68 : (Jvm.Cond.methodLink "FlockCountsModel" (102 : Nat) ({ cls := "FlockCountsModel", name := "tiresOf", desc := "(I)I" } : Jvm.MethodName)) ∈ wsL := wsL_t (tb_in4 (List.mem_of_getElem? (i := 68) rfl)) rfl
theorem wt4_70 : (Jvm.Cond.instanceMethod ({ cls := "FlockCountsModel", name := "tiresOf", desc := "(I)I" } : Jvm.MethodName)) ∈ wsL := wsL_t (tb_in4 (List.mem_of_getElem? (i := 70) rfl)) rfl
theorem wt4_71 : (Jvm.Cond.code ({ cls := "FlockCountsModel", name := "tiresOf", desc := "(I)I" } : Jvm.MethodName) prog_7_method_29_code (3 : Nat) (Option.some Jvm.ClassFile.FieldType.int)) ∈ wsL := wsL_t (tb_in4 (List.mem_of_getElem? (i := 71) rfl)) rfl
theorem wt4_72 : (Jvm.Cond.methodLink "FlockCountsLaw" (48 : Nat) ({ cls := "FlockCountsModel", name := "set", desc := "(III)I" } : Jvm.MethodName)) ∈ wsL := wsL_t (tb_in4 (List.mem_of_getElem? (i := 72) rfl)) rfl
theorem wt4_73 : (Jvm.Cond.instanceMethod ({ cls := "FlockCountsModel", name := "set", desc := "(III)I" } : Jvm.MethodName)) ∈ wsL := wsL_t (tb_in4 (List.mem_of_getElem? (i := 73) rfl)) rfl
theorem wt4_74 : (Jvm.Cond.selects "FlockCountsModel" ({ cls := "FlockCountsModel", name := "set", desc := "(III)I" } : Jvm.MethodName) ({ cls := "FlockCountsModel", name := "set", desc := "(III)I" } : Jvm.MethodName)) ∈ wsL := wsL_t (tb_in4 (List.mem_of_getElem? (i := 74) rfl)) rfl
theorem wt4_75 : (Jvm.Cond.code ({ cls := "FlockCountsModel", name := "set", desc := "(III)I" } : Jvm.MethodName) prog_7_method_32_code (5 : Nat) (Option.some Jvm.ClassFile.FieldType.int)) ∈ wsL := wsL_t (tb_in4 (List.mem_of_getElem? (i := 75) rfl)) rfl
theorem wt4_76 : (Jvm.Cond.constantLong "FlockCountsModel" (105 : Nat) (9999 : Int64)) ∈ wsL := wsL_t (tb_in4 (List.mem_of_getElem? (i := 76) rfl)) rfl
theorem wt4_77 : (Jvm.Cond.methodLink "FlockCountsLaw" (52 : Nat) ({ cls := "FlockCountsModel", name := "turn", desc := "(II)I" } : Jvm.MethodName)) ∈ wsL := wsL_t (tb_in4 (List.mem_of_getElem? (i := 77) rfl)) rfl
theorem wt4_78 : (Jvm.Cond.instanceMethod ({ cls := "FlockCountsModel", name := "turn", desc := "(II)I" } : Jvm.MethodName)) ∈ wsL := wsL_t (tb_in4 (List.mem_of_getElem? (i := 78) rfl)) rfl
theorem wt4_79 : (Jvm.Cond.selects "FlockCountsModel" ({ cls := "FlockCountsModel", name := "turn", desc := "(II)I" } : Jvm.MethodName) ({ cls := "FlockCountsModel", name := "turn", desc := "(II)I" } : Jvm.MethodName)) ∈ wsL := wsL_t (tb_in4 (List.mem_of_getElem? (i := 79) rfl)) rfl
theorem wt4_80 : (Jvm.Cond.code ({ cls := "FlockCountsModel", name := "turn", desc := "(II)I" } : Jvm.MethodName) prog_7_method_33_code (3 : Nat) (Option.some Jvm.ClassFile.FieldType.int)) ∈ wsL := wsL_t (tb_in4 (List.mem_of_getElem? (i := 80) rfl)) rfl
theorem wt4_81 : (Jvm.Cond.methodLink "FlockCountsLaw" (56 : Nat) ({ cls := "FlockCountsModel", name := "as", desc := "(II)I" } : Jvm.MethodName)) ∈ wsL := wsL_t (tb_in4 (List.mem_of_getElem? (i := 81) rfl)) rfl
theorem wt4_82 : (Jvm.Cond.instanceMethod ({ cls := "FlockCountsModel", name := "as", desc := "(II)I" } : Jvm.MethodName)) ∈ wsL := wsL_t (tb_in4 (List.mem_of_getElem? (i := 82) rfl)) rfl
theorem wt4_83 : (Jvm.Cond.selects "FlockCountsModel" ({ cls := "FlockCountsModel", name := "as", desc := "(II)I" } : Jvm.MethodName) ({ cls := "FlockCountsModel", name := "as", desc := "(II)I" } : Jvm.MethodName)) ∈ wsL := wsL_t (tb_in4 (List.mem_of_getElem? (i := 83) rfl)) rfl
theorem wt4_84 : (Jvm.Cond.code ({ cls := "FlockCountsModel", name := "as", desc := "(II)I" } : Jvm.MethodName) prog_7_method_35_code (3 : Nat) (Option.some Jvm.ClassFile.FieldType.int)) ∈ wsL := wsL_t (tb_in4 (List.mem_of_getElem? (i := 84) rfl)) rfl
theorem wt4_85 : (Jvm.Cond.methodLink "FlockCountsModel" (107 : Nat) ({ cls := "FlockCountsModel", name := "isUnder", desc := "(II)Z" } : Jvm.MethodName)) ∈ wsL := wsL_t (tb_in4 (List.mem_of_getElem? (i := 85) rfl)) rfl
theorem wt4_86 : (Jvm.Cond.static ({ cls := "FlockCountsModel", name := "isUnder", desc := "(II)Z" } : Jvm.MethodName)) ∈ wsL := wsL_t (tb_in4 (List.mem_of_getElem? (i := 86) rfl)) rfl
theorem wt4_87 : (Jvm.Cond.code ({ cls := "FlockCountsModel", name := "isUnder", desc := "(II)Z" } : Jvm.MethodName) prog_7_method_34_code (2 : Nat) (Option.some Jvm.ClassFile.FieldType.boolean)) ∈ wsL := wsL_t (tb_in4 (List.mem_of_getElem? (i := 87) rfl)) rfl
theorem wt4_88 : (Jvm.Cond.constant "FlockCountsModel" (111 : Nat) (-1000000003 : Int32)) ∈ wsL := wsL_t (tb_in4 (List.mem_of_getElem? (i := 88) rfl)) rfl
theorem wt4_89 : (Jvm.Cond.methodLink "FlockCountsLaw" (60 : Nat) ({ cls := "FlockCountsModel", name := "counts", desc := "(II)I" } : Jvm.MethodName)) ∈ wsL := wsL_t (tb_in4 (List.mem_of_getElem? (i := 89) rfl)) rfl
theorem wt4_90 : (Jvm.Cond.instanceMethod ({ cls := "FlockCountsModel", name := "counts", desc := "(II)I" } : Jvm.MethodName)) ∈ wsL := wsL_t (tb_in4 (List.mem_of_getElem? (i := 90) rfl)) rfl
theorem wt4_91 : (Jvm.Cond.selects "FlockCountsModel" ({ cls := "FlockCountsModel", name := "counts", desc := "(II)I" } : Jvm.MethodName) ({ cls := "FlockCountsModel", name := "counts", desc := "(II)I" } : Jvm.MethodName)) ∈ wsL := wsL_t (tb_in4 (List.mem_of_getElem? (i := 91) rfl)) rfl
theorem wt4_92 : (Jvm.Cond.code ({ cls := "FlockCountsModel", name := "counts", desc := "(II)I" } : Jvm.MethodName) prog_7_method_36_code (3 : Nat) (Option.some Jvm.ClassFile.FieldType.int)) ∈ wsL := wsL_t (tb_in4 (List.mem_of_getElem? (i := 92) rfl)) rfl
theorem wt4_93 : (Jvm.Cond.methodLink "FlockCountsModel" (112 : Nat) ({ cls := "FlockCountsModel", name := "countsOf", desc := "(II)I" } : Jvm.MethodName)) ∈ wsL := wsL_t (tb_in4 (List.mem_of_getElem? (i := 93) rfl)) rfl
theorem wt4_95 : (Jvm.Cond.instanceMethod ({ cls := "FlockCountsModel", name := "countsOf", desc := "(II)I" } : Jvm.MethodName)) ∈ wsL := wsL_t (tb_in4 (List.mem_of_getElem? (i := 95) rfl)) rfl
theorem wt4_96 : (Jvm.Cond.code ({ cls := "FlockCountsModel", name := "countsOf", desc := "(II)I" } : Jvm.MethodName) prog_7_method_30_code (7 : Nat) (Option.some Jvm.ClassFile.FieldType.int)) ∈ wsL := wsL_t (tb_in4 (List.mem_of_getElem? (i := 96) rfl)) rfl
theorem wt4_97 : (Jvm.Cond.methodLink "FlockCountsModel" (90 : Nat) ({ cls := "FlockCountsModel", name := "ones", desc := "(I)I" } : Jvm.MethodName)) ∈ wsL := wsL_t (tb_in4 (List.mem_of_getElem? (i := 97) rfl)) rfl
theorem wt4_98 : (Jvm.Cond.static ({ cls := "FlockCountsModel", name := "ones", desc := "(I)I" } : Jvm.MethodName)) ∈ wsL := wsL_t (tb_in4 (List.mem_of_getElem? (i := 98) rfl)) rfl
theorem wt4_99 : (Jvm.Cond.code ({ cls := "FlockCountsModel", name := "ones", desc := "(I)I" } : Jvm.MethodName) prog_7_method_17_code (3 : Nat) (Option.some Jvm.ClassFile.FieldType.int)) ∈ wsL := wsL_t (tb_in4 (List.mem_of_getElem? (i := 99) rfl)) rfl
theorem wt4_100 : (Jvm.Cond.methodLink "FlockCountsLaw" (64 : Nat) ({ cls := "FlockCountsModel", name := "minutes", desc := "(I)I" } : Jvm.MethodName)) ∈ wsL := wsL_t (tb_in4 (List.mem_of_getElem? (i := 100) rfl)) rfl
theorem wt4_101 : (Jvm.Cond.instanceMethod ({ cls := "FlockCountsModel", name := "minutes", desc := "(I)I" } : Jvm.MethodName)) ∈ wsL := wsL_t (tb_in4 (List.mem_of_getElem? (i := 101) rfl)) rfl
theorem wt4_102 : (Jvm.Cond.selects "FlockCountsModel" ({ cls := "FlockCountsModel", name := "minutes", desc := "(I)I" } : Jvm.MethodName) ({ cls := "FlockCountsModel", name := "minutes", desc := "(I)I" } : Jvm.MethodName)) ∈ wsL := wsL_t (tb_in4 (List.mem_of_getElem? (i := 102) rfl)) rfl
theorem wt4_103 : (Jvm.Cond.code ({ cls := "FlockCountsModel", name := "minutes", desc := "(I)I" } : Jvm.MethodName) prog_7_method_43_code (2 : Nat) (Option.some Jvm.ClassFile.FieldType.int)) ∈ wsL := wsL_t (tb_in4 (List.mem_of_getElem? (i := 103) rfl)) rfl
theorem wt4_104 : (Jvm.Cond.constantLong "FlockCountsModel" (131 : Nat) (100 : Int64)) ∈ wsL := wsL_t (tb_in4 (List.mem_of_getElem? (i := 104) rfl)) rfl
theorem wt4_105 : (Jvm.Cond.constant "FlockCountsModel" (133 : Nat) (99999 : Int32)) ∈ wsL := wsL_t (tb_in4 (List.mem_of_getElem? (i := 105) rfl)) rfl
theorem wt4_106 : (Jvm.Cond.constant "FlockCountsModel" (134 : Nat) (-1000000005 : Int32)) ∈ wsL := wsL_t (tb_in4 (List.mem_of_getElem? (i := 106) rfl)) rfl
theorem wt4_107 : (Jvm.Cond.methodLink "FlockCountsModel" (135 : Nat) ({ cls := "FlockCountsModel", name := "minutesGo", desc := "(I)V" } : Jvm.MethodName)) ∈ wsL := wsL_t (tb_in4 (List.mem_of_getElem? (i := 107) rfl)) rfl
theorem wt4_109 : (Jvm.Cond.instanceMethod ({ cls := "FlockCountsModel", name := "minutesGo", desc := "(I)V" } : Jvm.MethodName)) ∈ wsL := wsL_t (tb_in4 (List.mem_of_getElem? (i := 109) rfl)) rfl
theorem wt4_110 : (Jvm.Cond.code ({ cls := "FlockCountsModel", name := "minutesGo", desc := "(I)V" } : Jvm.MethodName) prog_7_method_41_code (3 : Nat) (Option.none : Option Jvm.ClassFile.FieldType)) ∈ wsL := wsL_t (tb_in4 (List.mem_of_getElem? (i := 110) rfl)) rfl
theorem wt4_111 : (Jvm.Cond.methodLink "FlockCountsModel" (128 : Nat) ({ cls := "FlockCountsModel", name := "minute", desc := "()V" } : Jvm.MethodName)) ∈ wsL := wsL_t (tb_in4 (List.mem_of_getElem? (i := 111) rfl)) rfl
theorem wt4_113 : (Jvm.Cond.instanceMethod ({ cls := "FlockCountsModel", name := "minute", desc := "()V" } : Jvm.MethodName)) ∈ wsL := wsL_t (tb_in4 (List.mem_of_getElem? (i := 113) rfl)) rfl
theorem wt4_114 : (Jvm.Cond.code ({ cls := "FlockCountsModel", name := "minute", desc := "()V" } : Jvm.MethodName) prog_7_method_40_code (2 : Nat) (Option.none : Option Jvm.ClassFile.FieldType)) ∈ wsL := wsL_t (tb_in4 (List.mem_of_getElem? (i := 114) rfl)) rfl
theorem wt4_115 : (Jvm.Cond.methodLink "FlockCountsModel" (118 : Nat) ({ cls := "FlockCountsModel", name := "isPassing", desc := "(I)Z" } : Jvm.MethodName)) ∈ wsL := wsL_t (tb_in4 (List.mem_of_getElem? (i := 115) rfl)) rfl
theorem wt4_117 : (Jvm.Cond.instanceMethod ({ cls := "FlockCountsModel", name := "isPassing", desc := "(I)Z" } : Jvm.MethodName)) ∈ wsL := wsL_t (tb_in4 (List.mem_of_getElem? (i := 117) rfl)) rfl
theorem wt4_118 : (Jvm.Cond.code ({ cls := "FlockCountsModel", name := "isPassing", desc := "(I)Z" } : Jvm.MethodName) prog_7_method_37_code (2 : Nat) (Option.some Jvm.ClassFile.FieldType.boolean)) ∈ wsL := wsL_t (tb_in4 (List.mem_of_getElem? (i := 118) rfl)) rfl
theorem wt4_119 : (Jvm.Cond.methodLink "FlockCountsModel" (121 : Nat) ({ cls := "FlockCountsModel", name := "passes", desc := "(I)V" } : Jvm.MethodName)) ∈ wsL := wsL_t (tb_in4 (List.mem_of_getElem? (i := 119) rfl)) rfl
theorem wt4_121 : (Jvm.Cond.instanceMethod ({ cls := "FlockCountsModel", name := "passes", desc := "(I)V" } : Jvm.MethodName)) ∈ wsL := wsL_t (tb_in4 (List.mem_of_getElem? (i := 121) rfl)) rfl
theorem wt4_122 : (Jvm.Cond.code ({ cls := "FlockCountsModel", name := "passes", desc := "(I)V" } : Jvm.MethodName) prog_7_method_38_code (5 : Nat) (Option.none : Option Jvm.ClassFile.FieldType)) ∈ wsL := wsL_t (tb_in4 (List.mem_of_getElem? (i := 122) rfl)) rfl
theorem wt4_123 : (Jvm.Cond.methodLink "FlockCountsModel" (115 : Nat) ({ cls := "FlockCountsModel", name := "heldTo", desc := "(II)I" } : Jvm.MethodName)) ∈ wsL := wsL_t (tb_in4 (List.mem_of_getElem? (i := 123) rfl)) rfl
theorem wt4_124 : (Jvm.Cond.static ({ cls := "FlockCountsModel", name := "heldTo", desc := "(II)I" } : Jvm.MethodName)) ∈ wsL := wsL_t (tb_in4 (List.mem_of_getElem? (i := 124) rfl)) rfl
theorem wt4_125 : (Jvm.Cond.code ({ cls := "FlockCountsModel", name := "heldTo", desc := "(II)I" } : Jvm.MethodName) prog_7_method_18_code (2 : Nat) (Option.some Jvm.ClassFile.FieldType.int)) ∈ wsL := wsL_t (tb_in4 (List.mem_of_getElem? (i := 125) rfl)) rfl
theorem wt4_126 : (Jvm.Cond.methodLink "FlockCountsModel" (125 : Nat) ({ cls := "FlockCountsModel", name := "nobodyPasses", desc := "()V" } : Jvm.MethodName)) ∈ wsL := wsL_t (tb_in4 (List.mem_of_getElem? (i := 126) rfl)) rfl
theorem wt4_128 : (Jvm.Cond.instanceMethod ({ cls := "FlockCountsModel", name := "nobodyPasses", desc := "()V" } : Jvm.MethodName)) ∈ wsL := wsL_t (tb_in4 (List.mem_of_getElem? (i := 128) rfl)) rfl
theorem wt4_129 : (Jvm.Cond.code ({ cls := "FlockCountsModel", name := "nobodyPasses", desc := "()V" } : Jvm.MethodName) prog_7_method_39_code (2 : Nat) (Option.none : Option Jvm.ClassFile.FieldType)) ∈ wsL := wsL_t (tb_in4 (List.mem_of_getElem? (i := 129) rfl)) rfl
theorem wt4_130 : (Jvm.Cond.methodLink "FlockCountsModel" (138 : Nat) ({ cls := "FlockCountsModel", name := "asleep", desc := "()I" } : Jvm.MethodName)) ∈ wsL := wsL_t (tb_in4 (List.mem_of_getElem? (i := 130) rfl)) rfl
theorem wt4_132 : (Jvm.Cond.instanceMethod ({ cls := "FlockCountsModel", name := "asleep", desc := "()I" } : Jvm.MethodName)) ∈ wsL := wsL_t (tb_in4 (List.mem_of_getElem? (i := 132) rfl)) rfl
theorem wt4_133 : (Jvm.Cond.code ({ cls := "FlockCountsModel", name := "asleep", desc := "()I" } : Jvm.MethodName) prog_7_method_42_code (3 : Nat) (Option.some Jvm.ClassFile.FieldType.int)) ∈ wsL := wsL_t (tb_in4 (List.mem_of_getElem? (i := 133) rfl)) rfl
theorem wt4_134 : (Jvm.Cond.methodLink "FlockCountsLaw" (68 : Nat) ({ cls := "FlockCountsModel", name := "now", desc := "(I)I" } : Jvm.MethodName)) ∈ wsL := wsL_t (tb_in4 (List.mem_of_getElem? (i := 134) rfl)) rfl
theorem wt4_135 : (Jvm.Cond.instanceMethod ({ cls := "FlockCountsModel", name := "now", desc := "(I)I" } : Jvm.MethodName)) ∈ wsL := wsL_t (tb_in4 (List.mem_of_getElem? (i := 135) rfl)) rfl
theorem wt4_136 : (Jvm.Cond.selects "FlockCountsModel" ({ cls := "FlockCountsModel", name := "now", desc := "(I)I" } : Jvm.MethodName) ({ cls := "FlockCountsModel", name := "now", desc := "(I)I" } : Jvm.MethodName)) ∈ wsL := wsL_t (tb_in4 (List.mem_of_getElem? (i := 136) rfl)) rfl
theorem wt4_137 : (Jvm.Cond.code ({ cls := "FlockCountsModel", name := "now", desc := "(I)I" } : Jvm.MethodName) prog_7_method_47_code (2 : Nat) (Option.some Jvm.ClassFile.FieldType.int)) ∈ wsL := wsL_t (tb_in4 (List.mem_of_getElem? (i := 137) rfl)) rfl
theorem wt4_138 : (Jvm.Cond.methodLink "FlockCountsModel" (142 : Nat) ({ cls := "FlockCountsModel", name := "together", desc := "(I)I" } : Jvm.MethodName)) ∈ wsL := wsL_t (tb_in4 (List.mem_of_getElem? (i := 138) rfl)) rfl
theorem wt4_140 : (Jvm.Cond.instanceMethod ({ cls := "FlockCountsModel", name := "together", desc := "(I)I" } : Jvm.MethodName)) ∈ wsL := wsL_t (tb_in4 (List.mem_of_getElem? (i := 140) rfl)) rfl
theorem wt4_141 : (Jvm.Cond.code ({ cls := "FlockCountsModel", name := "together", desc := "(I)I" } : Jvm.MethodName) prog_7_method_44_code (4 : Nat) (Option.some Jvm.ClassFile.FieldType.int)) ∈ wsL := wsL_t (tb_in4 (List.mem_of_getElem? (i := 141) rfl)) rfl
theorem wt4_142 : (Jvm.Cond.methodLink "FlockCountsModel" (145 : Nat) ({ cls := "FlockCountsModel", name := "wearOf", desc := "(I)I" } : Jvm.MethodName)) ∈ wsL := wsL_t (tb_in4 (List.mem_of_getElem? (i := 142) rfl)) rfl
theorem wt4_144 : (Jvm.Cond.instanceMethod ({ cls := "FlockCountsModel", name := "wearOf", desc := "(I)I" } : Jvm.MethodName)) ∈ wsL := wsL_t (tb_in4 (List.mem_of_getElem? (i := 144) rfl)) rfl
theorem wt4_145 : (Jvm.Cond.code ({ cls := "FlockCountsModel", name := "wearOf", desc := "(I)I" } : Jvm.MethodName) prog_7_method_45_code (4 : Nat) (Option.some Jvm.ClassFile.FieldType.int)) ∈ wsL := wsL_t (tb_in4 (List.mem_of_getElem? (i := 145) rfl)) rfl
theorem wt4_146 : (Jvm.Cond.methodLink "FlockCountsModel" (148 : Nat) ({ cls := "FlockCountsModel", name := "passing", desc := "()I" } : Jvm.MethodName)) ∈ wsL := wsL_t (tb_in4 (List.mem_of_getElem? (i := 146) rfl)) rfl
theorem wt4_148 : (Jvm.Cond.instanceMethod ({ cls := "FlockCountsModel", name := "passing", desc := "()I" } : Jvm.MethodName)) ∈ wsL := wsL_t (tb_in4 (List.mem_of_getElem? (i := 148) rfl)) rfl
theorem wt4_149 : (Jvm.Cond.code ({ cls := "FlockCountsModel", name := "passing", desc := "()I" } : Jvm.MethodName) prog_7_method_46_code (3 : Nat) (Option.some Jvm.ClassFile.FieldType.int)) ∈ wsL := wsL_t (tb_in4 (List.mem_of_getElem? (i := 149) rfl)) rfl
theorem wt4_150 : (Jvm.Cond.methodLink "FlockCountsLaw" (72 : Nat) ({ cls := "FlockCountsModel", name := "on", desc := "(III)I" } : Jvm.MethodName)) ∈ wsL := wsL_t (tb_in4 (List.mem_of_getElem? (i := 150) rfl)) rfl
theorem wt4_151 : (Jvm.Cond.instanceMethod ({ cls := "FlockCountsModel", name := "on", desc := "(III)I" } : Jvm.MethodName)) ∈ wsL := wsL_t (tb_in4 (List.mem_of_getElem? (i := 151) rfl)) rfl
theorem wt4_152 : (Jvm.Cond.selects "FlockCountsModel" ({ cls := "FlockCountsModel", name := "on", desc := "(III)I" } : Jvm.MethodName) ({ cls := "FlockCountsModel", name := "on", desc := "(III)I" } : Jvm.MethodName)) ∈ wsL := wsL_t (tb_in4 (List.mem_of_getElem? (i := 152) rfl)) rfl
theorem wt4_153 : (Jvm.Cond.code ({ cls := "FlockCountsModel", name := "on", desc := "(III)I" } : Jvm.MethodName) prog_7_method_49_code (4 : Nat) (Option.some Jvm.ClassFile.FieldType.int)) ∈ wsL := wsL_t (tb_in4 (List.mem_of_getElem? (i := 153) rfl)) rfl
theorem wt4_154 : (Jvm.Cond.methodLink "FlockCountsModel" (157 : Nat) ({ cls := "FlockCountsModel", name := "behind", desc := "(II)I" } : Jvm.MethodName)) ∈ wsL := wsL_t (tb_in4 (List.mem_of_getElem? (i := 154) rfl)) rfl
theorem wt4_156 : (Jvm.Cond.instanceMethod ({ cls := "FlockCountsModel", name := "behind", desc := "(II)I" } : Jvm.MethodName)) ∈ wsL := wsL_t (tb_in4 (List.mem_of_getElem? (i := 156) rfl)) rfl
theorem wt4_157 : (Jvm.Cond.code ({ cls := "FlockCountsModel", name := "behind", desc := "(II)I" } : Jvm.MethodName) prog_7_method_48_code (3 : Nat) (Option.some Jvm.ClassFile.FieldType.int)) ∈ wsL := wsL_t (tb_in4 (List.mem_of_getElem? (i := 157) rfl)) rfl
theorem wt4_158 : (Jvm.Cond.methodLink "FlockCountsModel" (151 : Nat) ({ cls := "FlockCountsModel", name := "laysAside", desc := "()V" } : Jvm.MethodName)) ∈ wsL := wsL_t (tb_in4 (List.mem_of_getElem? (i := 158) rfl)) rfl
theorem wt4_160 : (Jvm.Cond.instanceMethod ({ cls := "FlockCountsModel", name := "laysAside", desc := "()V" } : Jvm.MethodName)) ∈ wsL := wsL_t (tb_in4 (List.mem_of_getElem? (i := 160) rfl)) rfl
theorem wt4_161 : (Jvm.Cond.code ({ cls := "FlockCountsModel", name := "laysAside", desc := "()V" } : Jvm.MethodName) prog_7_method_6_code (2 : Nat) (Option.none : Option Jvm.ClassFile.FieldType)) ∈ wsL := wsL_t (tb_in4 (List.mem_of_getElem? (i := 161) rfl)) rfl
theorem wt4_162 : (Jvm.Cond.methodLink "FlockCountsModel" (154 : Nat) ({ cls := "FlockCountsModel", name := "takesBack", desc := "(I)I" } : Jvm.MethodName)) ∈ wsL := wsL_t (tb_in4 (List.mem_of_getElem? (i := 162) rfl)) rfl
theorem wt4_164 : (Jvm.Cond.instanceMethod ({ cls := "FlockCountsModel", name := "takesBack", desc := "(I)I" } : Jvm.MethodName)) ∈ wsL := wsL_t (tb_in4 (List.mem_of_getElem? (i := 164) rfl)) rfl
theorem wt4_165 : (Jvm.Cond.code ({ cls := "FlockCountsModel", name := "takesBack", desc := "(I)I" } : Jvm.MethodName) prog_7_method_7_code (3 : Nat) (Option.some Jvm.ClassFile.FieldType.int)) ∈ wsL := wsL_t (tb_in4 (List.mem_of_getElem? (i := 165) rfl)) rfl
theorem wt4_166 : (Jvm.Cond.methodLink "FlockCountsLaw" (76 : Nat) ({ cls := "FlockCountsModel", name := "worn", desc := "(II)I" } : Jvm.MethodName)) ∈ wsL := wsL_t (tb_in4 (List.mem_of_getElem? (i := 166) rfl)) rfl
theorem wt4_167 : (Jvm.Cond.instanceMethod ({ cls := "FlockCountsModel", name := "worn", desc := "(II)I" } : Jvm.MethodName)) ∈ wsL := wsL_t (tb_in4 (List.mem_of_getElem? (i := 167) rfl)) rfl
theorem wt4_168 : (Jvm.Cond.selects "FlockCountsModel" ({ cls := "FlockCountsModel", name := "worn", desc := "(II)I" } : Jvm.MethodName) ({ cls := "FlockCountsModel", name := "worn", desc := "(II)I" } : Jvm.MethodName)) ∈ wsL := wsL_t (tb_in4 (List.mem_of_getElem? (i := 168) rfl)) rfl
theorem wt4_169 : (Jvm.Cond.code ({ cls := "FlockCountsModel", name := "worn", desc := "(II)I" } : Jvm.MethodName) prog_7_method_50_code (3 : Nat) (Option.some Jvm.ClassFile.FieldType.int)) ∈ wsL := wsL_t (tb_in4 (List.mem_of_getElem? (i := 169) rfl)) rfl
theorem wt4_170 : (Jvm.Cond.methodLink "FlockCountsLaw" (80 : Nat) ({ cls := "FlockCountsModel", name := "sleeps", desc := "(I)I" } : Jvm.MethodName)) ∈ wsL := wsL_t (tb_in4 (List.mem_of_getElem? (i := 170) rfl)) rfl
theorem wt4_171 : (Jvm.Cond.instanceMethod ({ cls := "FlockCountsModel", name := "sleeps", desc := "(I)I" } : Jvm.MethodName)) ∈ wsL := wsL_t (tb_in4 (List.mem_of_getElem? (i := 171) rfl)) rfl
theorem wt4_172 : (Jvm.Cond.selects "FlockCountsModel" ({ cls := "FlockCountsModel", name := "sleeps", desc := "(I)I" } : Jvm.MethodName) ({ cls := "FlockCountsModel", name := "sleeps", desc := "(I)I" } : Jvm.MethodName)) ∈ wsL := wsL_t (tb_in4 (List.mem_of_getElem? (i := 172) rfl)) rfl
theorem wt4_173 : (Jvm.Cond.code ({ cls := "FlockCountsModel", name := "sleeps", desc := "(I)I" } : Jvm.MethodName) prog_7_method_54_code (2 : Nat) (Option.some Jvm.ClassFile.FieldType.int)) ∈ wsL := wsL_t (tb_in4 (List.mem_of_getElem? (i := 173) rfl)) rfl
theorem wt4_174 : (Jvm.Cond.methodLink "FlockCountsModel" (160 : Nat) ({ cls := "FlockCountsModel", name := "firstAs", desc := "(III)I" } : Jvm.MethodName)) ∈ wsL := wsL_t (tb_in4 (List.mem_of_getElem? (i := 174) rfl)) rfl
theorem wt4_176 : (Jvm.Cond.instanceMethod ({ cls := "FlockCountsModel", name := "firstAs", desc := "(III)I" } : Jvm.MethodName)) ∈ wsL := wsL_t (tb_in4 (List.mem_of_getElem? (i := 176) rfl)) rfl
theorem wt4_177 : (Jvm.Cond.code ({ cls := "FlockCountsModel", name := "firstAs", desc := "(III)I" } : Jvm.MethodName) prog_7_method_51_code (5 : Nat) (Option.some Jvm.ClassFile.FieldType.int)) ∈ wsL := wsL_t (tb_in4 (List.mem_of_getElem? (i := 177) rfl)) rfl
theorem wt4_178 : (Jvm.Cond.methodLink "FlockCountsModel" (164 : Nat) ({ cls := "FlockCountsModel", name := "orNone", desc := "(II)I" } : Jvm.MethodName)) ∈ wsL := wsL_t (tb_in4 (List.mem_of_getElem? (i := 178) rfl)) rfl
theorem wt4_180 : (Jvm.Cond.instanceMethod ({ cls := "FlockCountsModel", name := "orNone", desc := "(II)I" } : Jvm.MethodName)) ∈ wsL := wsL_t (tb_in4 (List.mem_of_getElem? (i := 180) rfl)) rfl
theorem wt4_181 : (Jvm.Cond.code ({ cls := "FlockCountsModel", name := "orNone", desc := "(II)I" } : Jvm.MethodName) prog_7_method_53_code (3 : Nat) (Option.some Jvm.ClassFile.FieldType.int)) ∈ wsL := wsL_t (tb_in4 (List.mem_of_getElem? (i := 181) rfl)) rfl
theorem wt4_182 : (Jvm.Cond.methodLink "FlockCountsLaw" (84 : Nat) ({ cls := "FlockCountsModel", name := "quiet", desc := "()I" } : Jvm.MethodName)) ∈ wsL := wsL_t (tb_in4 (List.mem_of_getElem? (i := 182) rfl)) rfl
theorem wt4_183 : (Jvm.Cond.instanceMethod ({ cls := "FlockCountsModel", name := "quiet", desc := "()I" } : Jvm.MethodName)) ∈ wsL := wsL_t (tb_in4 (List.mem_of_getElem? (i := 183) rfl)) rfl
theorem wt4_184 : (Jvm.Cond.selects "FlockCountsModel" ({ cls := "FlockCountsModel", name := "quiet", desc := "()I" } : Jvm.MethodName) ({ cls := "FlockCountsModel", name := "quiet", desc := "()I" } : Jvm.MethodName)) ∈ wsL := wsL_t (tb_in4 (List.mem_of_getElem? (i := 184) rfl)) rfl
theorem wt4_185 : (Jvm.Cond.code ({ cls := "FlockCountsModel", name := "quiet", desc := "()I" } : Jvm.MethodName) prog_7_method_55_code (1 : Nat) (Option.some Jvm.ClassFile.FieldType.int)) ∈ wsL := wsL_t (tb_in4 (List.mem_of_getElem? (i := 185) rfl)) rfl
theorem wt4_186 : (Jvm.Cond.methodLink "FlockCountsModel" (167 : Nat) ({ cls := "FlockCountsModel", name := "quietIn", desc := "(I)I" } : Jvm.MethodName)) ∈ wsL := wsL_t (tb_in4 (List.mem_of_getElem? (i := 186) rfl)) rfl
theorem wt4_188 : (Jvm.Cond.instanceMethod ({ cls := "FlockCountsModel", name := "quietIn", desc := "(I)I" } : Jvm.MethodName)) ∈ wsL := wsL_t (tb_in4 (List.mem_of_getElem? (i := 188) rfl)) rfl
theorem wt4_189 : (Jvm.Cond.code ({ cls := "FlockCountsModel", name := "quietIn", desc := "(I)I" } : Jvm.MethodName) prog_7_method_52_code (3 : Nat) (Option.some Jvm.ClassFile.FieldType.int)) ∈ wsL := wsL_t (tb_in4 (List.mem_of_getElem? (i := 189) rfl)) rfl
theorem wt4_190 : (Jvm.Cond.methodLink "FlockCountsLaw" (88 : Nat) ({ cls := "FlockCountsModel", name := "bare", desc := "(I)I" } : Jvm.MethodName)) ∈ wsL := wsL_t (tb_in4 (List.mem_of_getElem? (i := 190) rfl)) rfl
theorem wt4_191 : (Jvm.Cond.instanceMethod ({ cls := "FlockCountsModel", name := "bare", desc := "(I)I" } : Jvm.MethodName)) ∈ wsL := wsL_t (tb_in4 (List.mem_of_getElem? (i := 191) rfl)) rfl
theorem wt4_192 : (Jvm.Cond.selects "FlockCountsModel" ({ cls := "FlockCountsModel", name := "bare", desc := "(I)I" } : Jvm.MethodName) ({ cls := "FlockCountsModel", name := "bare", desc := "(I)I" } : Jvm.MethodName)) ∈ wsL := wsL_t (tb_in4 (List.mem_of_getElem? (i := 192) rfl)) rfl
theorem wt4_193 : (Jvm.Cond.code ({ cls := "FlockCountsModel", name := "bare", desc := "(I)I" } : Jvm.MethodName) prog_7_method_56_code (2 : Nat) (Option.some Jvm.ClassFile.FieldType.int)) ∈ wsL := wsL_t (tb_in4 (List.mem_of_getElem? (i := 193) rfl)) rfl
theorem wt4_194 : (Jvm.Cond.methodLink "FlockCountsLaw" (92 : Nat) ({ cls := "FlockCountsModel", name := "guise", desc := "(I)I" } : Jvm.MethodName)) ∈ wsL := wsL_t (tb_in4 (List.mem_of_getElem? (i := 194) rfl)) rfl
theorem wt4_195 : (Jvm.Cond.instanceMethod ({ cls := "FlockCountsModel", name := "guise", desc := "(I)I" } : Jvm.MethodName)) ∈ wsL := wsL_t (tb_in4 (List.mem_of_getElem? (i := 195) rfl)) rfl
theorem wt4_196 : (Jvm.Cond.selects "FlockCountsModel" ({ cls := "FlockCountsModel", name := "guise", desc := "(I)I" } : Jvm.MethodName) ({ cls := "FlockCountsModel", name := "guise", desc := "(I)I" } : Jvm.MethodName)) ∈ wsL := wsL_t (tb_in4 (List.mem_of_getElem? (i := 196) rfl)) rfl
theorem wt4_197 : (Jvm.Cond.code ({ cls := "FlockCountsModel", name := "guise", desc := "(I)I" } : Jvm.MethodName) prog_7_method_60_code (4 : Nat) (Option.some Jvm.ClassFile.FieldType.int)) ∈ wsL := wsL_t (tb_in4 (List.mem_of_getElem? (i := 197) rfl)) rfl
theorem wt4_198 : (Jvm.Cond.methodLink "FlockCountsModel" (177 : Nat) ({ cls := "FlockCountsModel", name := "begins", desc := "(I)V" } : Jvm.MethodName)) ∈ wsL := wsL_t (tb_in4 (List.mem_of_getElem? (i := 198) rfl)) rfl
theorem wt4_200 : (Jvm.Cond.instanceMethod ({ cls := "FlockCountsModel", name := "begins", desc := "(I)V" } : Jvm.MethodName)) ∈ wsL := wsL_t (tb_in4 (List.mem_of_getElem? (i := 200) rfl)) rfl
theorem wt4_201 : (Jvm.Cond.code ({ cls := "FlockCountsModel", name := "begins", desc := "(I)V" } : Jvm.MethodName) prog_7_method_57_code (2 : Nat) (Option.none : Option Jvm.ClassFile.FieldType)) ∈ wsL := wsL_t (tb_in4 (List.mem_of_getElem? (i := 201) rfl)) rfl
theorem wt4_202 : (Jvm.Cond.methodLink "FlockCountsModel" (180 : Nat) ({ cls := "FlockCountsModel", name := "tries", desc := "(II)V" } : Jvm.MethodName)) ∈ wsL := wsL_t (tb_in4 (List.mem_of_getElem? (i := 202) rfl)) rfl
theorem wt4_204 : (Jvm.Cond.instanceMethod ({ cls := "FlockCountsModel", name := "tries", desc := "(II)V" } : Jvm.MethodName)) ∈ wsL := wsL_t (tb_in4 (List.mem_of_getElem? (i := 204) rfl)) rfl
theorem wt4_205 : (Jvm.Cond.code ({ cls := "FlockCountsModel", name := "tries", desc := "(II)V" } : Jvm.MethodName) prog_7_method_58_code (3 : Nat) (Option.none : Option Jvm.ClassFile.FieldType)) ∈ wsL := wsL_t (tb_in4 (List.mem_of_getElem? (i := 205) rfl)) rfl
theorem wt4_206 : (Jvm.Cond.methodLink "FlockCountsModel" (184 : Nat) ({ cls := "FlockCountsModel", name := "bestOrNone", desc := "()I" } : Jvm.MethodName)) ∈ wsL := wsL_t (tb_in4 (List.mem_of_getElem? (i := 206) rfl)) rfl
theorem wt4_208 : (Jvm.Cond.instanceMethod ({ cls := "FlockCountsModel", name := "bestOrNone", desc := "()I" } : Jvm.MethodName)) ∈ wsL := wsL_t (tb_in4 (List.mem_of_getElem? (i := 208) rfl)) rfl
theorem wt4_209 : (Jvm.Cond.code ({ cls := "FlockCountsModel", name := "bestOrNone", desc := "()I" } : Jvm.MethodName) prog_7_method_59_code (1 : Nat) (Option.some Jvm.ClassFile.FieldType.int)) ∈ wsL := wsL_t (tb_in4 (List.mem_of_getElem? (i := 209) rfl)) rfl
theorem wt4_210 : (Jvm.Cond.methodLink "FlockCountsLaw" (96 : Nat) ({ cls := "FlockCountsModel", name := "guises", desc := "(II)I" } : Jvm.MethodName)) ∈ wsL := wsL_t (tb_in4 (List.mem_of_getElem? (i := 210) rfl)) rfl
theorem wt4_211 : (Jvm.Cond.instanceMethod ({ cls := "FlockCountsModel", name := "guises", desc := "(II)I" } : Jvm.MethodName)) ∈ wsL := wsL_t (tb_in4 (List.mem_of_getElem? (i := 211) rfl)) rfl
theorem wt4_212 : (Jvm.Cond.selects "FlockCountsModel" ({ cls := "FlockCountsModel", name := "guises", desc := "(II)I" } : Jvm.MethodName) ({ cls := "FlockCountsModel", name := "guises", desc := "(II)I" } : Jvm.MethodName)) ∈ wsL := wsL_t (tb_in4 (List.mem_of_getElem? (i := 212) rfl)) rfl
theorem wt4_213 : (Jvm.Cond.code ({ cls := "FlockCountsModel", name := "guises", desc := "(II)I" } : Jvm.MethodName) prog_7_method_61_code (6 : Nat) (Option.some Jvm.ClassFile.FieldType.int)) ∈ wsL := wsL_t (tb_in4 (List.mem_of_getElem? (i := 213) rfl)) rfl
theorem wt4_214 : (Jvm.Cond.methodLink "FlockCountsLaw" (100 : Nat) ({ cls := "FlockCountsModel", name := "swap", desc := "()I" } : Jvm.MethodName)) ∈ wsL := wsL_t (tb_in4 (List.mem_of_getElem? (i := 214) rfl)) rfl
theorem wt4_215 : (Jvm.Cond.instanceMethod ({ cls := "FlockCountsModel", name := "swap", desc := "()I" } : Jvm.MethodName)) ∈ wsL := wsL_t (tb_in4 (List.mem_of_getElem? (i := 215) rfl)) rfl
theorem wt4_216 : (Jvm.Cond.selects "FlockCountsModel" ({ cls := "FlockCountsModel", name := "swap", desc := "()I" } : Jvm.MethodName) ({ cls := "FlockCountsModel", name := "swap", desc := "()I" } : Jvm.MethodName)) ∈ wsL := wsL_t (tb_in4 (List.mem_of_getElem? (i := 216) rfl)) rfl
theorem wt4_217 : (Jvm.Cond.code ({ cls := "FlockCountsModel", name := "swap", desc := "()I" } : Jvm.MethodName) prog_7_method_63_code (3 : Nat) (Option.some Jvm.ClassFile.FieldType.int)) ∈ wsL := wsL_t (tb_in4 (List.mem_of_getElem? (i := 217) rfl)) rfl
theorem wt4_218 : (Jvm.Cond.methodLink "FlockCountsModel" (187 : Nat) ({ cls := "FlockCountsModel", name := "swaps", desc := "(II)V" } : Jvm.MethodName)) ∈ wsL := wsL_t (tb_in4 (List.mem_of_getElem? (i := 218) rfl)) rfl
theorem wt4_220 : (Jvm.Cond.instanceMethod ({ cls := "FlockCountsModel", name := "swaps", desc := "(II)V" } : Jvm.MethodName)) ∈ wsL := wsL_t (tb_in4 (List.mem_of_getElem? (i := 220) rfl)) rfl
theorem wt4_221 : (Jvm.Cond.code ({ cls := "FlockCountsModel", name := "swaps", desc := "(II)V" } : Jvm.MethodName) prog_7_method_62_code (5 : Nat) (Option.none : Option Jvm.ClassFile.FieldType)) ∈ wsL := wsL_t (tb_in4 (List.mem_of_getElem? (i := 221) rfl)) rfl
theorem wt4_222 : (Jvm.Cond.methodLink "FlockCountsLaw" (104 : Nat) ({ cls := "FlockCountsModel", name := "spare", desc := "(II)I" } : Jvm.MethodName)) ∈ wsL := wsL_t (tb_in4 (List.mem_of_getElem? (i := 222) rfl)) rfl
theorem wt4_223 : (Jvm.Cond.instanceMethod ({ cls := "FlockCountsModel", name := "spare", desc := "(II)I" } : Jvm.MethodName)) ∈ wsL := wsL_t (tb_in4 (List.mem_of_getElem? (i := 223) rfl)) rfl
theorem wt4_224 : (Jvm.Cond.selects "FlockCountsModel" ({ cls := "FlockCountsModel", name := "spare", desc := "(II)I" } : Jvm.MethodName) ({ cls := "FlockCountsModel", name := "spare", desc := "(II)I" } : Jvm.MethodName)) ∈ wsL := wsL_t (tb_in4 (List.mem_of_getElem? (i := 224) rfl)) rfl
theorem wt4_225 : (Jvm.Cond.code ({ cls := "FlockCountsModel", name := "spare", desc := "(II)I" } : Jvm.MethodName) prog_7_method_64_code (7 : Nat) (Option.some Jvm.ClassFile.FieldType.int)) ∈ wsL := wsL_t (tb_in4 (List.mem_of_getElem? (i := 225) rfl)) rfl
theorem wt4_226 : (Jvm.Cond.constantLong "FlockCountsModel" (190 : Nat) (40 : Int64)) ∈ wsL := wsL_t (tb_in4 (List.mem_of_getElem? (i := 226) rfl)) rfl
theorem wt4_227 : (Jvm.Cond.constantLong "FlockCountsModel" (192 : Nat) (594 : Int64)) ∈ wsL := wsL_t (tb_in4 (List.mem_of_getElem? (i := 227) rfl)) rfl
theorem wt4_228 : (Jvm.Cond.methodLink "FlockCountsLaw" (108 : Nat) ({ cls := "FlockCountsModel", name := "kind", desc := "(I)I" } : Jvm.MethodName)) ∈ wsL := wsL_t (tb_in4 (List.mem_of_getElem? (i := 228) rfl)) rfl
theorem wt4_229 : (Jvm.Cond.instanceMethod ({ cls := "FlockCountsModel", name := "kind", desc := "(I)I" } : Jvm.MethodName)) ∈ wsL := wsL_t (tb_in4 (List.mem_of_getElem? (i := 229) rfl)) rfl
theorem wt4_230 : (Jvm.Cond.selects "FlockCountsModel" ({ cls := "FlockCountsModel", name := "kind", desc := "(I)I" } : Jvm.MethodName) ({ cls := "FlockCountsModel", name := "kind", desc := "(I)I" } : Jvm.MethodName)) ∈ wsL := wsL_t (tb_in4 (List.mem_of_getElem? (i := 230) rfl)) rfl
theorem wt4_231 : (Jvm.Cond.code ({ cls := "FlockCountsModel", name := "kind", desc := "(I)I" } : Jvm.MethodName) prog_7_method_65_code (4 : Nat) (Option.some Jvm.ClassFile.FieldType.int)) ∈ wsL := wsL_t (tb_in4 (List.mem_of_getElem? (i := 231) rfl)) rfl
theorem wt4_232 : (Jvm.Cond.methodLink "FlockCountsLaw" (112 : Nat) ({ cls := "FlockCountsModel", name := "most", desc := "(II)I" } : Jvm.MethodName)) ∈ wsL := wsL_t (tb_in4 (List.mem_of_getElem? (i := 232) rfl)) rfl
theorem wt4_233 : (Jvm.Cond.instanceMethod ({ cls := "FlockCountsModel", name := "most", desc := "(II)I" } : Jvm.MethodName)) ∈ wsL := wsL_t (tb_in4 (List.mem_of_getElem? (i := 233) rfl)) rfl
theorem wt4_234 : (Jvm.Cond.selects "FlockCountsModel" ({ cls := "FlockCountsModel", name := "most", desc := "(II)I" } : Jvm.MethodName) ({ cls := "FlockCountsModel", name := "most", desc := "(II)I" } : Jvm.MethodName)) ∈ wsL := wsL_t (tb_in4 (List.mem_of_getElem? (i := 234) rfl)) rfl
theorem wt4_235 : (Jvm.Cond.code ({ cls := "FlockCountsModel", name := "most", desc := "(II)I" } : Jvm.MethodName) prog_7_method_66_code (7 : Nat) (Option.some Jvm.ClassFile.FieldType.int)) ∈ wsL := wsL_t (tb_in4 (List.mem_of_getElem? (i := 235) rfl)) rfl
theorem wt4_236 : (Jvm.Cond.methodLink "FlockCountsLaw" (116 : Nat) ({ cls := "FlockCountsModel", name := "begin", desc := "(I)I" } : Jvm.MethodName)) ∈ wsL := wsL_t (tb_in4 (List.mem_of_getElem? (i := 236) rfl)) rfl
theorem wt4_237 : (Jvm.Cond.instanceMethod ({ cls := "FlockCountsModel", name := "begin", desc := "(I)I" } : Jvm.MethodName)) ∈ wsL := wsL_t (tb_in4 (List.mem_of_getElem? (i := 237) rfl)) rfl
theorem wt4_238 : (Jvm.Cond.selects "FlockCountsModel" ({ cls := "FlockCountsModel", name := "begin", desc := "(I)I" } : Jvm.MethodName) ({ cls := "FlockCountsModel", name := "begin", desc := "(I)I" } : Jvm.MethodName)) ∈ wsL := wsL_t (tb_in4 (List.mem_of_getElem? (i := 238) rfl)) rfl
theorem wt4_239 : (Jvm.Cond.code ({ cls := "FlockCountsModel", name := "begin", desc := "(I)I" } : Jvm.MethodName) prog_7_method_67_code (3 : Nat) (Option.some Jvm.ClassFile.FieldType.int)) ∈ wsL := wsL_t (tb_in4 (List.mem_of_getElem? (i := 239) rfl)) rfl
theorem wt5_0 : (Jvm.Cond.methodLink "FlockCountsLaw" (120 : Nat) ({ cls := "FlockCountsModel", name := "last", desc := "()I" } : Jvm.MethodName)) ∈ wsL := wsL_t (tb_in5 (List.mem_of_getElem? (i := 0) rfl)) rfl
theorem wt5_1 : (Jvm.Cond.instanceMethod ({ cls := "FlockCountsModel", name := "last", desc := "()I" } : Jvm.MethodName)) ∈ wsL := wsL_t (tb_in5 (List.mem_of_getElem? (i := 1) rfl)) rfl
theorem wt5_2 : (Jvm.Cond.selects "FlockCountsModel" ({ cls := "FlockCountsModel", name := "last", desc := "()I" } : Jvm.MethodName) ({ cls := "FlockCountsModel", name := "last", desc := "()I" } : Jvm.MethodName)) ∈ wsL := wsL_t (tb_in5 (List.mem_of_getElem? (i := 2) rfl)) rfl
theorem wt5_3 : (Jvm.Cond.code ({ cls := "FlockCountsModel", name := "last", desc := "()I" } : Jvm.MethodName) prog_7_method_68_code (5 : Nat) (Option.some Jvm.ClassFile.FieldType.int)) ∈ wsL := wsL_t (tb_in5 (List.mem_of_getElem? (i := 3) rfl)) rfl
theorem wt5_4 : (Jvm.Cond.methodLink "FlockCountsLaw" (124 : Nat) ({ cls := "FlockCountsModel", name := "feed", desc := "(II)I" } : Jvm.MethodName)) ∈ wsL := wsL_t (tb_in5 (List.mem_of_getElem? (i := 4) rfl)) rfl
theorem wt5_5 : (Jvm.Cond.instanceMethod ({ cls := "FlockCountsModel", name := "feed", desc := "(II)I" } : Jvm.MethodName)) ∈ wsL := wsL_t (tb_in5 (List.mem_of_getElem? (i := 5) rfl)) rfl
theorem wt5_6 : (Jvm.Cond.selects "FlockCountsModel" ({ cls := "FlockCountsModel", name := "feed", desc := "(II)I" } : Jvm.MethodName) ({ cls := "FlockCountsModel", name := "feed", desc := "(II)I" } : Jvm.MethodName)) ∈ wsL := wsL_t (tb_in5 (List.mem_of_getElem? (i := 6) rfl)) rfl
theorem wt5_7 : (Jvm.Cond.code ({ cls := "FlockCountsModel", name := "feed", desc := "(II)I" } : Jvm.MethodName) prog_7_method_69_code (4 : Nat) (Option.some Jvm.ClassFile.FieldType.int)) ∈ wsL := wsL_t (tb_in5 (List.mem_of_getElem? (i := 7) rfl)) rfl
theorem wt5_8 : (Jvm.Cond.constantLong "FlockCountsModel" (194 : Nat) (4 : Int64)) ∈ wsL := wsL_t (tb_in5 (List.mem_of_getElem? (i := 8) rfl)) rfl
theorem wt5_9 : (Jvm.Cond.methodLink "FlockCountsLaw" (128 : Nat) ({ cls := "FlockCountsModel", name := "wipe", desc := "()I" } : Jvm.MethodName)) ∈ wsL := wsL_t (tb_in5 (List.mem_of_getElem? (i := 9) rfl)) rfl
theorem wt5_10 : (Jvm.Cond.instanceMethod ({ cls := "FlockCountsModel", name := "wipe", desc := "()I" } : Jvm.MethodName)) ∈ wsL := wsL_t (tb_in5 (List.mem_of_getElem? (i := 10) rfl)) rfl
theorem wt5_11 : (Jvm.Cond.selects "FlockCountsModel" ({ cls := "FlockCountsModel", name := "wipe", desc := "()I" } : Jvm.MethodName) ({ cls := "FlockCountsModel", name := "wipe", desc := "()I" } : Jvm.MethodName)) ∈ wsL := wsL_t (tb_in5 (List.mem_of_getElem? (i := 11) rfl)) rfl
theorem wt5_12 : (Jvm.Cond.code ({ cls := "FlockCountsModel", name := "wipe", desc := "()I" } : Jvm.MethodName) prog_7_method_70_code (2 : Nat) (Option.some Jvm.ClassFile.FieldType.int)) ∈ wsL := wsL_t (tb_in5 (List.mem_of_getElem? (i := 12) rfl)) rfl
theorem wt5_13 : (Jvm.Cond.methodLink "FlockCountsLaw" (132 : Nat) ({ cls := "FlockCountsModel", name := "fell", desc := "()I" } : Jvm.MethodName)) ∈ wsL := wsL_t (tb_in5 (List.mem_of_getElem? (i := 13) rfl)) rfl
theorem wt5_14 : (Jvm.Cond.instanceMethod ({ cls := "FlockCountsModel", name := "fell", desc := "()I" } : Jvm.MethodName)) ∈ wsL := wsL_t (tb_in5 (List.mem_of_getElem? (i := 14) rfl)) rfl
theorem wt5_15 : (Jvm.Cond.selects "FlockCountsModel" ({ cls := "FlockCountsModel", name := "fell", desc := "()I" } : Jvm.MethodName) ({ cls := "FlockCountsModel", name := "fell", desc := "()I" } : Jvm.MethodName)) ∈ wsL := wsL_t (tb_in5 (List.mem_of_getElem? (i := 15) rfl)) rfl
theorem wt5_16 : (Jvm.Cond.code ({ cls := "FlockCountsModel", name := "fell", desc := "()I" } : Jvm.MethodName) prog_7_method_84_code (2 : Nat) (Option.some Jvm.ClassFile.FieldType.int)) ∈ wsL := wsL_t (tb_in5 (List.mem_of_getElem? (i := 16) rfl)) rfl
theorem wt5_17 : (Jvm.Cond.methodLink "FlockCountsModel" (288 : Nat) ({ cls := "FlockCountsModel", name := "saves", desc := "()V" } : Jvm.MethodName)) ∈ wsL := wsL_t (tb_in5 (List.mem_of_getElem? (i := 17) rfl)) rfl
theorem wt5_19 : (Jvm.Cond.instanceMethod ({ cls := "FlockCountsModel", name := "saves", desc := "()V" } : Jvm.MethodName)) ∈ wsL := wsL_t (tb_in5 (List.mem_of_getElem? (i := 19) rfl)) rfl
theorem wt5_20 : (Jvm.Cond.code ({ cls := "FlockCountsModel", name := "saves", desc := "()V" } : Jvm.MethodName) prog_7_method_4_code (2 : Nat) (Option.none : Option Jvm.ClassFile.FieldType)) ∈ wsL := wsL_t (tb_in5 (List.mem_of_getElem? (i := 20) rfl)) rfl
theorem wt5_21 : (Jvm.Cond.methodLink "FlockCountsModel" (226 : Nat) ({ cls := "FlockCountsModel", name := "token", desc := "()V" } : Jvm.MethodName)) ∈ wsL := wsL_t (tb_in5 (List.mem_of_getElem? (i := 21) rfl)) rfl
theorem wt5_23 : (Jvm.Cond.instanceMethod ({ cls := "FlockCountsModel", name := "token", desc := "()V" } : Jvm.MethodName)) ∈ wsL := wsL_t (tb_in5 (List.mem_of_getElem? (i := 23) rfl)) rfl
theorem wt5_24 : (Jvm.Cond.code ({ cls := "FlockCountsModel", name := "token", desc := "()V" } : Jvm.MethodName) prog_7_method_74_code (3 : Nat) (Option.none : Option Jvm.ClassFile.FieldType)) ∈ wsL := wsL_t (tb_in5 (List.mem_of_getElem? (i := 24) rfl)) rfl
theorem wt5_25 : (Jvm.Cond.methodLink "FlockCountsModel" (213 : Nat) ({ cls := "FlockCountsModel", name := "byteAt", desc := "(I)I" } : Jvm.MethodName)) ∈ wsL := wsL_t (tb_in5 (List.mem_of_getElem? (i := 25) rfl)) rfl
theorem wt5_27 : (Jvm.Cond.instanceMethod ({ cls := "FlockCountsModel", name := "byteAt", desc := "(I)I" } : Jvm.MethodName)) ∈ wsL := wsL_t (tb_in5 (List.mem_of_getElem? (i := 27) rfl)) rfl
theorem wt5_28 : (Jvm.Cond.code ({ cls := "FlockCountsModel", name := "byteAt", desc := "(I)I" } : Jvm.MethodName) prog_7_method_71_code (2 : Nat) (Option.some Jvm.ClassFile.FieldType.int)) ∈ wsL := wsL_t (tb_in5 (List.mem_of_getElem? (i := 28) rfl)) rfl
theorem wt5_29 : (Jvm.Cond.methodLink "FlockCountsModel" (216 : Nat) ({ cls := "FlockCountsModel", name := "isLetter", desc := "(I)Z" } : Jvm.MethodName)) ∈ wsL := wsL_t (tb_in5 (List.mem_of_getElem? (i := 29) rfl)) rfl
theorem wt5_30 : (Jvm.Cond.static ({ cls := "FlockCountsModel", name := "isLetter", desc := "(I)Z" } : Jvm.MethodName)) ∈ wsL := wsL_t (tb_in5 (List.mem_of_getElem? (i := 30) rfl)) rfl
theorem wt5_31 : (Jvm.Cond.code ({ cls := "FlockCountsModel", name := "isLetter", desc := "(I)Z" } : Jvm.MethodName) prog_7_method_72_code (1 : Nat) (Option.some Jvm.ClassFile.FieldType.boolean)) ∈ wsL := wsL_t (tb_in5 (List.mem_of_getElem? (i := 31) rfl)) rfl
theorem wt5_32 : (Jvm.Cond.constantLong "FlockCountsModel" (199 : Nat) (97 : Int64)) ∈ wsL := wsL_t (tb_in5 (List.mem_of_getElem? (i := 32) rfl)) rfl
theorem wt5_33 : (Jvm.Cond.constantLong "FlockCountsModel" (201 : Nat) (122 : Int64)) ∈ wsL := wsL_t (tb_in5 (List.mem_of_getElem? (i := 33) rfl)) rfl
theorem wt5_34 : (Jvm.Cond.methodLink "FlockCountsModel" (219 : Nat) ({ cls := "FlockCountsModel", name := "isDigit", desc := "(I)Z" } : Jvm.MethodName)) ∈ wsL := wsL_t (tb_in5 (List.mem_of_getElem? (i := 34) rfl)) rfl
theorem wt5_35 : (Jvm.Cond.static ({ cls := "FlockCountsModel", name := "isDigit", desc := "(I)Z" } : Jvm.MethodName)) ∈ wsL := wsL_t (tb_in5 (List.mem_of_getElem? (i := 35) rfl)) rfl
theorem wt5_36 : (Jvm.Cond.code ({ cls := "FlockCountsModel", name := "isDigit", desc := "(I)Z" } : Jvm.MethodName) prog_7_method_73_code (1 : Nat) (Option.some Jvm.ClassFile.FieldType.boolean)) ∈ wsL := wsL_t (tb_in5 (List.mem_of_getElem? (i := 36) rfl)) rfl
theorem wt5_37 : (Jvm.Cond.constantLong "FlockCountsModel" (203 : Nat) (48 : Int64)) ∈ wsL := wsL_t (tb_in5 (List.mem_of_getElem? (i := 37) rfl)) rfl
theorem wt5_38 : (Jvm.Cond.constantLong "FlockCountsModel" (205 : Nat) (57 : Int64)) ∈ wsL := wsL_t (tb_in5 (List.mem_of_getElem? (i := 38) rfl)) rfl
theorem wt5_39 : (Jvm.Cond.methodLink "FlockCountsModel" (291 : Nat) ({ cls := "FlockCountsModel", name := "item", desc := "()V" } : Jvm.MethodName)) ∈ wsL := wsL_t (tb_in5 (List.mem_of_getElem? (i := 39) rfl)) rfl
theorem wt5_41 : (Jvm.Cond.instanceMethod ({ cls := "FlockCountsModel", name := "item", desc := "()V" } : Jvm.MethodName)) ∈ wsL := wsL_t (tb_in5 (List.mem_of_getElem? (i := 41) rfl)) rfl
theorem wt5_42 : (Jvm.Cond.code ({ cls := "FlockCountsModel", name := "item", desc := "()V" } : Jvm.MethodName) prog_7_method_83_code (2 : Nat) (Option.none : Option Jvm.ClassFile.FieldType)) ∈ wsL := wsL_t (tb_in5 (List.mem_of_getElem? (i := 42) rfl)) rfl
theorem wt5_43 : (Jvm.Cond.methodLink "FlockCountsModel" (277 : Nat) ({ cls := "FlockCountsModel", name := "kindHere", desc := "()I" } : Jvm.MethodName)) ∈ wsL := wsL_t (tb_in5 (List.mem_of_getElem? (i := 43) rfl)) rfl
theorem wt5_45 : (Jvm.Cond.instanceMethod ({ cls := "FlockCountsModel", name := "kindHere", desc := "()I" } : Jvm.MethodName)) ∈ wsL := wsL_t (tb_in5 (List.mem_of_getElem? (i := 45) rfl)) rfl
theorem wt5_46 : (Jvm.Cond.code ({ cls := "FlockCountsModel", name := "kindHere", desc := "()I" } : Jvm.MethodName) prog_7_method_78_code (3 : Nat) (Option.some Jvm.ClassFile.FieldType.int)) ∈ wsL := wsL_t (tb_in5 (List.mem_of_getElem? (i := 46) rfl)) rfl
theorem wt5_47 : (Jvm.Cond.methodLink "FlockCountsModel" (240 : Nat) ({ cls := "FlockCountsModel", name := "word", desc := "()J" } : Jvm.MethodName)) ∈ wsL := wsL_t (tb_in5 (List.mem_of_getElem? (i := 47) rfl)) rfl
theorem wt5_49 : (Jvm.Cond.instanceMethod ({ cls := "FlockCountsModel", name := "word", desc := "()J" } : Jvm.MethodName)) ∈ wsL := wsL_t (tb_in5 (List.mem_of_getElem? (i := 49) rfl)) rfl
theorem wt5_50 : (Jvm.Cond.code ({ cls := "FlockCountsModel", name := "word", desc := "()J" } : Jvm.MethodName) prog_7_method_76_code (4 : Nat) (Option.some Jvm.ClassFile.FieldType.long)) ∈ wsL := wsL_t (tb_in5 (List.mem_of_getElem? (i := 50) rfl)) rfl
theorem wt5_51 : (Jvm.Cond.constantLong "FlockCountsModel" (229 : Nat) (36028797018963967 : Int64)) ∈ wsL := wsL_t (tb_in5 (List.mem_of_getElem? (i := 51) rfl)) rfl
theorem wt5_52 : (Jvm.Cond.constantLong "FlockCountsModel" (231 : Nat) (32 : Int64)) ∈ wsL := wsL_t (tb_in5 (List.mem_of_getElem? (i := 52) rfl)) rfl
theorem wt5_53 : (Jvm.Cond.constantLong "FlockCountsModel" (244 : Nat) (20190384 : Int64)) ∈ wsL := wsL_t (tb_in5 (List.mem_of_getElem? (i := 53) rfl)) rfl
theorem wt5_54 : (Jvm.Cond.constantLong "FlockCountsModel" (246 : Nat) (5861 : Int64)) ∈ wsL := wsL_t (tb_in5 (List.mem_of_getElem? (i := 54) rfl)) rfl
theorem wt5_55 : (Jvm.Cond.constantLong "FlockCountsModel" (248 : Nat) (394658 : Int64)) ∈ wsL := wsL_t (tb_in5 (List.mem_of_getElem? (i := 55) rfl)) rfl
theorem wt5_56 : (Jvm.Cond.constantLong "FlockCountsModel" (250 : Nat) (777658546 : Int64)) ∈ wsL := wsL_t (tb_in5 (List.mem_of_getElem? (i := 56) rfl)) rfl
theorem wt5_57 : (Jvm.Cond.constantLong "FlockCountsModel" (252 : Nat) (24161458 : Int64)) ∈ wsL := wsL_t (tb_in5 (List.mem_of_getElem? (i := 57) rfl)) rfl
theorem wt5_58 : (Jvm.Cond.constantLong "FlockCountsModel" (254 : Nat) (21168 : Int64)) ∈ wsL := wsL_t (tb_in5 (List.mem_of_getElem? (i := 58) rfl)) rfl
theorem wt5_59 : (Jvm.Cond.methodLink "FlockCountsModel" (280 : Nat) ({ cls := "FlockCountsModel", name := "sheepItem", desc := "(I)V" } : Jvm.MethodName)) ∈ wsL := wsL_t (tb_in5 (List.mem_of_getElem? (i := 59) rfl)) rfl
theorem wt5_61 : (Jvm.Cond.instanceMethod ({ cls := "FlockCountsModel", name := "sheepItem", desc := "(I)V" } : Jvm.MethodName)) ∈ wsL := wsL_t (tb_in5 (List.mem_of_getElem? (i := 61) rfl)) rfl
theorem wt5_62 : (Jvm.Cond.code ({ cls := "FlockCountsModel", name := "sheepItem", desc := "(I)V" } : Jvm.MethodName) prog_7_method_80_code (3 : Nat) (Option.none : Option Jvm.ClassFile.FieldType)) ∈ wsL := wsL_t (tb_in5 (List.mem_of_getElem? (i := 62) rfl)) rfl
theorem wt5_63 : (Jvm.Cond.methodLink "FlockCountsModel" (236 : Nat) ({ cls := "FlockCountsModel", name := "must", desc := "(Z)V" } : Jvm.MethodName)) ∈ wsL := wsL_t (tb_in5 (List.mem_of_getElem? (i := 63) rfl)) rfl
theorem wt5_65 : (Jvm.Cond.instanceMethod ({ cls := "FlockCountsModel", name := "must", desc := "(Z)V" } : Jvm.MethodName)) ∈ wsL := wsL_t (tb_in5 (List.mem_of_getElem? (i := 65) rfl)) rfl
theorem wt5_66 : (Jvm.Cond.code ({ cls := "FlockCountsModel", name := "must", desc := "(Z)V" } : Jvm.MethodName) prog_7_method_75_code (2 : Nat) (Option.none : Option Jvm.ClassFile.FieldType)) ∈ wsL := wsL_t (tb_in5 (List.mem_of_getElem? (i := 66) rfl)) rfl
theorem wt5_67 : (Jvm.Cond.constantLong "FlockCountsModel" (259 : Nat) (24165011 : Int64)) ∈ wsL := wsL_t (tb_in5 (List.mem_of_getElem? (i := 67) rfl)) rfl
theorem wt5_68 : (Jvm.Cond.methodLink "FlockCountsModel" (261 : Nat) ({ cls := "FlockCountsModel", name := "partItem", desc := "(JII)V" } : Jvm.MethodName)) ∈ wsL := wsL_t (tb_in5 (List.mem_of_getElem? (i := 68) rfl)) rfl
theorem wt5_70 : (Jvm.Cond.instanceMethod ({ cls := "FlockCountsModel", name := "partItem", desc := "(JII)V" } : Jvm.MethodName)) ∈ wsL := wsL_t (tb_in5 (List.mem_of_getElem? (i := 70) rfl)) rfl
theorem wt5_71 : (Jvm.Cond.code ({ cls := "FlockCountsModel", name := "partItem", desc := "(JII)V" } : Jvm.MethodName) prog_7_method_79_code (5 : Nat) (Option.none : Option Jvm.ClassFile.FieldType)) ∈ wsL := wsL_t (tb_in5 (List.mem_of_getElem? (i := 71) rfl)) rfl
theorem wt5_72 : (Jvm.Cond.methodLink "FlockCountsModel" (256 : Nat) ({ cls := "FlockCountsModel", name := "number", desc := "(II)V" } : Jvm.MethodName)) ∈ wsL := wsL_t (tb_in5 (List.mem_of_getElem? (i := 72) rfl)) rfl
theorem wt5_74 : (Jvm.Cond.instanceMethod ({ cls := "FlockCountsModel", name := "number", desc := "(II)V" } : Jvm.MethodName)) ∈ wsL := wsL_t (tb_in5 (List.mem_of_getElem? (i := 74) rfl)) rfl
theorem wt5_75 : (Jvm.Cond.code ({ cls := "FlockCountsModel", name := "number", desc := "(II)V" } : Jvm.MethodName) prog_7_method_77_code (6 : Nat) (Option.none : Option Jvm.ClassFile.FieldType)) ∈ wsL := wsL_t (tb_in5 (List.mem_of_getElem? (i := 75) rfl)) rfl
theorem wt5_76 : (Jvm.Cond.constantLong "FlockCountsModel" (283 : Nat) (13358 : Int64)) ∈ wsL := wsL_t (tb_in5 (List.mem_of_getElem? (i := 76) rfl)) rfl
theorem wt5_77 : (Jvm.Cond.methodLink "FlockCountsModel" (285 : Nat) ({ cls := "FlockCountsModel", name := "manItem", desc := "()V" } : Jvm.MethodName)) ∈ wsL := wsL_t (tb_in5 (List.mem_of_getElem? (i := 77) rfl)) rfl
theorem wt5_79 : (Jvm.Cond.instanceMethod ({ cls := "FlockCountsModel", name := "manItem", desc := "()V" } : Jvm.MethodName)) ∈ wsL := wsL_t (tb_in5 (List.mem_of_getElem? (i := 79) rfl)) rfl
theorem wt5_80 : (Jvm.Cond.code ({ cls := "FlockCountsModel", name := "manItem", desc := "()V" } : Jvm.MethodName) prog_7_method_82_code (3 : Nat) (Option.none : Option Jvm.ClassFile.FieldType)) ∈ wsL := wsL_t (tb_in5 (List.mem_of_getElem? (i := 80) rfl)) rfl
theorem wt5_81 : (Jvm.Cond.constantLong "FlockCountsModel" (265 : Nat) (4583 : Int64)) ∈ wsL := wsL_t (tb_in5 (List.mem_of_getElem? (i := 81) rfl)) rfl
theorem wt5_82 : (Jvm.Cond.methodLink "FlockCountsModel" (267 : Nat) ({ cls := "FlockCountsModel", name := "bitHere", desc := "(JI)I" } : Jvm.MethodName)) ∈ wsL := wsL_t (tb_in5 (List.mem_of_getElem? (i := 82) rfl)) rfl
theorem wt5_84 : (Jvm.Cond.instanceMethod ({ cls := "FlockCountsModel", name := "bitHere", desc := "(JI)I" } : Jvm.MethodName)) ∈ wsL := wsL_t (tb_in5 (List.mem_of_getElem? (i := 84) rfl)) rfl
theorem wt5_85 : (Jvm.Cond.code ({ cls := "FlockCountsModel", name := "bitHere", desc := "(JI)I" } : Jvm.MethodName) prog_7_method_81_code (5 : Nat) (Option.some Jvm.ClassFile.FieldType.int)) ∈ wsL := wsL_t (tb_in5 (List.mem_of_getElem? (i := 85) rfl)) rfl
theorem wt5_86 : (Jvm.Cond.constantLong "FlockCountsModel" (271 : Nat) (20587627 : Int64)) ∈ wsL := wsL_t (tb_in5 (List.mem_of_getElem? (i := 86) rfl)) rfl
theorem wt5_87 : (Jvm.Cond.constantLong "FlockCountsModel" (273 : Nat) (402864 : Int64)) ∈ wsL := wsL_t (tb_in5 (List.mem_of_getElem? (i := 87) rfl)) rfl
theorem wt5_88 : (Jvm.Cond.constantLong "FlockCountsModel" (275 : Nat) (769614 : Int64)) ∈ wsL := wsL_t (tb_in5 (List.mem_of_getElem? (i := 88) rfl)) rfl
theorem wt5_89 : (Jvm.Cond.methodLink "FlockCountsModel" (294 : Nat) ({ cls := "FlockCountsModel", name := "putsBack", desc := "()V" } : Jvm.MethodName)) ∈ wsL := wsL_t (tb_in5 (List.mem_of_getElem? (i := 89) rfl)) rfl
theorem wt5_91 : (Jvm.Cond.instanceMethod ({ cls := "FlockCountsModel", name := "putsBack", desc := "()V" } : Jvm.MethodName)) ∈ wsL := wsL_t (tb_in5 (List.mem_of_getElem? (i := 91) rfl)) rfl
theorem wt5_92 : (Jvm.Cond.code ({ cls := "FlockCountsModel", name := "putsBack", desc := "()V" } : Jvm.MethodName) prog_7_method_5_code (2 : Nat) (Option.none : Option Jvm.ClassFile.FieldType)) ∈ wsL := wsL_t (tb_in5 (List.mem_of_getElem? (i := 92) rfl)) rfl
theorem wt5_93 : (Jvm.Cond.methodLink "FlockCountsLaw" (136 : Nat) ({ cls := "FlockCountsModel", name := "sheet", desc := "(III)I" } : Jvm.MethodName)) ∈ wsL := wsL_t (tb_in5 (List.mem_of_getElem? (i := 93) rfl)) rfl
theorem wt5_94 : (Jvm.Cond.instanceMethod ({ cls := "FlockCountsModel", name := "sheet", desc := "(III)I" } : Jvm.MethodName)) ∈ wsL := wsL_t (tb_in5 (List.mem_of_getElem? (i := 94) rfl)) rfl
theorem wt5_95 : (Jvm.Cond.selects "FlockCountsModel" ({ cls := "FlockCountsModel", name := "sheet", desc := "(III)I" } : Jvm.MethodName) ({ cls := "FlockCountsModel", name := "sheet", desc := "(III)I" } : Jvm.MethodName)) ∈ wsL := wsL_t (tb_in5 (List.mem_of_getElem? (i := 95) rfl)) rfl
theorem wt5_96 : (Jvm.Cond.code ({ cls := "FlockCountsModel", name := "sheet", desc := "(III)I" } : Jvm.MethodName) prog_7_method_86_code (5 : Nat) (Option.some Jvm.ClassFile.FieldType.int)) ∈ wsL := wsL_t (tb_in5 (List.mem_of_getElem? (i := 96) rfl)) rfl
theorem wt5_97 : (Jvm.Cond.methodLink "FlockCountsModel" (299 : Nat) ({ cls := "FlockCountsModel", name := "isOne", desc := "(I)Z" } : Jvm.MethodName)) ∈ wsL := wsL_t (tb_in5 (List.mem_of_getElem? (i := 97) rfl)) rfl
theorem wt5_98 : (Jvm.Cond.static ({ cls := "FlockCountsModel", name := "isOne", desc := "(I)Z" } : Jvm.MethodName)) ∈ wsL := wsL_t (tb_in5 (List.mem_of_getElem? (i := 98) rfl)) rfl
theorem wt5_99 : (Jvm.Cond.code ({ cls := "FlockCountsModel", name := "isOne", desc := "(I)Z" } : Jvm.MethodName) prog_7_method_85_code (1 : Nat) (Option.some Jvm.ClassFile.FieldType.boolean)) ∈ wsL := wsL_t (tb_in5 (List.mem_of_getElem? (i := 99) rfl)) rfl
theorem wt5_100 : (Jvm.Cond.constantLong "FlockCountsModel" (297 : Nat) (3 : Int64)) ∈ wsL := wsL_t (tb_in5 (List.mem_of_getElem? (i := 100) rfl)) rfl
theorem wt5_101 : (Jvm.Cond.constant "FlockCountsModel" (302 : Nat) (-1000000007 : Int32)) ∈ wsL := wsL_t (tb_in5 (List.mem_of_getElem? (i := 101) rfl)) rfl
theorem wt5_102 : (Jvm.Cond.methodLink "FlockCountsLaw" (143 : Nat) ({ cls := "FlockCountsModel", name := "write", desc := "(IIJ)J" } : Jvm.MethodName)) ∈ wsL := wsL_t (tb_in5 (List.mem_of_getElem? (i := 102) rfl)) rfl
theorem wt5_103 : (Jvm.Cond.instanceMethod ({ cls := "FlockCountsModel", name := "write", desc := "(IIJ)J" } : Jvm.MethodName)) ∈ wsL := wsL_t (tb_in5 (List.mem_of_getElem? (i := 103) rfl)) rfl
theorem wt5_104 : (Jvm.Cond.selects "FlockCountsModel" ({ cls := "FlockCountsModel", name := "write", desc := "(IIJ)J" } : Jvm.MethodName) ({ cls := "FlockCountsModel", name := "write", desc := "(IIJ)J" } : Jvm.MethodName)) ∈ wsL := wsL_t (tb_in5 (List.mem_of_getElem? (i := 104) rfl)) rfl
theorem wt5_105 : (Jvm.Cond.code ({ cls := "FlockCountsModel", name := "write", desc := "(IIJ)J" } : Jvm.MethodName) prog_7_method_89_code (8 : Nat) (Option.some Jvm.ClassFile.FieldType.long)) ∈ wsL := wsL_t (tb_in5 (List.mem_of_getElem? (i := 105) rfl)) rfl
theorem wt5_106 : (Jvm.Cond.methodLink "FlockCountsModel" (304 : Nat) ({ cls := "FlockCountsModel", name := "wrongSheet", desc := "(I)I" } : Jvm.MethodName)) ∈ wsL := wsL_t (tb_in5 (List.mem_of_getElem? (i := 106) rfl)) rfl
theorem wt5_108 : (Jvm.Cond.instanceMethod ({ cls := "FlockCountsModel", name := "wrongSheet", desc := "(I)I" } : Jvm.MethodName)) ∈ wsL := wsL_t (tb_in5 (List.mem_of_getElem? (i := 108) rfl)) rfl
theorem wt5_109 : (Jvm.Cond.code ({ cls := "FlockCountsModel", name := "wrongSheet", desc := "(I)I" } : Jvm.MethodName) prog_7_method_88_code (2 : Nat) (Option.some Jvm.ClassFile.FieldType.int)) ∈ wsL := wsL_t (tb_in5 (List.mem_of_getElem? (i := 109) rfl)) rfl
theorem wt5_110 : (Jvm.Cond.constant "FlockCountsModel" (303 : Nat) (-1000000006 : Int32)) ∈ wsL := wsL_t (tb_in5 (List.mem_of_getElem? (i := 110) rfl)) rfl
theorem wt5_111 : (Jvm.Cond.methodLink "FlockCountsModel" (307 : Nat) ({ cls := "FlockCountsModel", name := "narrowed", desc := "(IJ)J" } : Jvm.MethodName)) ∈ wsL := wsL_t (tb_in5 (List.mem_of_getElem? (i := 111) rfl)) rfl
theorem wt5_112 : (Jvm.Cond.static ({ cls := "FlockCountsModel", name := "narrowed", desc := "(IJ)J" } : Jvm.MethodName)) ∈ wsL := wsL_t (tb_in5 (List.mem_of_getElem? (i := 112) rfl)) rfl
theorem wt5_113 : (Jvm.Cond.code ({ cls := "FlockCountsModel", name := "narrowed", desc := "(IJ)J" } : Jvm.MethodName) prog_7_method_87_code (3 : Nat) (Option.some Jvm.ClassFile.FieldType.long)) ∈ wsL := wsL_t (tb_in5 (List.mem_of_getElem? (i := 113) rfl)) rfl
theorem wt5_114 : (Jvm.Cond.methodLink "FlockCountsLaw" (148 : Nat) ({ cls := "FlockCountsModel", name := "copy", desc := "(IIIII)I" } : Jvm.MethodName)) ∈ wsL := wsL_t (tb_in5 (List.mem_of_getElem? (i := 114) rfl)) rfl
theorem wt5_115 : (Jvm.Cond.instanceMethod ({ cls := "FlockCountsModel", name := "copy", desc := "(IIIII)I" } : Jvm.MethodName)) ∈ wsL := wsL_t (tb_in5 (List.mem_of_getElem? (i := 115) rfl)) rfl
theorem wt5_116 : (Jvm.Cond.selects "FlockCountsModel" ({ cls := "FlockCountsModel", name := "copy", desc := "(IIIII)I" } : Jvm.MethodName) ({ cls := "FlockCountsModel", name := "copy", desc := "(IIIII)I" } : Jvm.MethodName)) ∈ wsL := wsL_t (tb_in5 (List.mem_of_getElem? (i := 116) rfl)) rfl
theorem wt5_117 : (Jvm.Cond.code ({ cls := "FlockCountsModel", name := "copy", desc := "(IIIII)I" } : Jvm.MethodName) prog_7_method_90_code (7 : Nat) (Option.some Jvm.ClassFile.FieldType.int)) ∈ wsL := wsL_t (tb_in5 (List.mem_of_getElem? (i := 117) rfl)) rfl
theorem wt5_118 : (Jvm.Cond.methodLink "FlockCountsLaw" (152 : Nat) ({ cls := "FlockCountsModel", name := "lays", desc := "(I)I" } : Jvm.MethodName)) ∈ wsL := wsL_t (tb_in5 (List.mem_of_getElem? (i := 118) rfl)) rfl
theorem wt5_119 : (Jvm.Cond.instanceMethod ({ cls := "FlockCountsModel", name := "lays", desc := "(I)I" } : Jvm.MethodName)) ∈ wsL := wsL_t (tb_in5 (List.mem_of_getElem? (i := 119) rfl)) rfl
theorem wt5_120 : (Jvm.Cond.selects "FlockCountsModel" ({ cls := "FlockCountsModel", name := "lays", desc := "(I)I" } : Jvm.MethodName) ({ cls := "FlockCountsModel", name := "lays", desc := "(I)I" } : Jvm.MethodName)) ∈ wsL := wsL_t (tb_in5 (List.mem_of_getElem? (i := 120) rfl)) rfl
theorem wt5_121 : (Jvm.Cond.code ({ cls := "FlockCountsModel", name := "lays", desc := "(I)I" } : Jvm.MethodName) prog_7_method_91_code (6 : Nat) (Option.some Jvm.ClassFile.FieldType.int)) ∈ wsL := wsL_t (tb_in5 (List.mem_of_getElem? (i := 121) rfl)) rfl
theorem wt5_122 : (Jvm.Cond.methodLink "FlockCountsLaw" (156 : Nat) ({ cls := "FlockCountsModel", name := "book", desc := "(II)I" } : Jvm.MethodName)) ∈ wsL := wsL_t (tb_in5 (List.mem_of_getElem? (i := 122) rfl)) rfl
theorem wt5_123 : (Jvm.Cond.instanceMethod ({ cls := "FlockCountsModel", name := "book", desc := "(II)I" } : Jvm.MethodName)) ∈ wsL := wsL_t (tb_in5 (List.mem_of_getElem? (i := 123) rfl)) rfl
theorem wt5_124 : (Jvm.Cond.selects "FlockCountsModel" ({ cls := "FlockCountsModel", name := "book", desc := "(II)I" } : Jvm.MethodName) ({ cls := "FlockCountsModel", name := "book", desc := "(II)I" } : Jvm.MethodName)) ∈ wsL := wsL_t (tb_in5 (List.mem_of_getElem? (i := 124) rfl)) rfl
theorem wt5_125 : (Jvm.Cond.code ({ cls := "FlockCountsModel", name := "book", desc := "(II)I" } : Jvm.MethodName) prog_7_method_93_code (5 : Nat) (Option.some Jvm.ClassFile.FieldType.int)) ∈ wsL := wsL_t (tb_in5 (List.mem_of_getElem? (i := 125) rfl)) rfl
theorem wt5_126 : (Jvm.Cond.methodLink "FlockCountsModel" (311 : Nat) ({ cls := "FlockCountsModel", name := "wrongBook", desc := "(II)I" } : Jvm.MethodName)) ∈ wsL := wsL_t (tb_in5 (List.mem_of_getElem? (i := 126) rfl)) rfl
theorem wt5_128 : (Jvm.Cond.instanceMethod ({ cls := "FlockCountsModel", name := "wrongBook", desc := "(II)I" } : Jvm.MethodName)) ∈ wsL := wsL_t (tb_in5 (List.mem_of_getElem? (i := 128) rfl)) rfl
theorem wt5_129 : (Jvm.Cond.code ({ cls := "FlockCountsModel", name := "wrongBook", desc := "(II)I" } : Jvm.MethodName) prog_7_method_92_code (4 : Nat) (Option.some Jvm.ClassFile.FieldType.int)) ∈ wsL := wsL_t (tb_in5 (List.mem_of_getElem? (i := 129) rfl)) rfl
theorem wt5_130 : (Jvm.Cond.methodLink "FlockCountsLaw" (160 : Nat) ({ cls := "FlockCountsModel", name := "read", desc := "(II)I" } : Jvm.MethodName)) ∈ wsL := wsL_t (tb_in5 (List.mem_of_getElem? (i := 130) rfl)) rfl
theorem wt5_131 : (Jvm.Cond.instanceMethod ({ cls := "FlockCountsModel", name := "read", desc := "(II)I" } : Jvm.MethodName)) ∈ wsL := wsL_t (tb_in5 (List.mem_of_getElem? (i := 131) rfl)) rfl
theorem wt5_132 : (Jvm.Cond.selects "FlockCountsModel" ({ cls := "FlockCountsModel", name := "read", desc := "(II)I" } : Jvm.MethodName) ({ cls := "FlockCountsModel", name := "read", desc := "(II)I" } : Jvm.MethodName)) ∈ wsL := wsL_t (tb_in5 (List.mem_of_getElem? (i := 132) rfl)) rfl
theorem wt5_133 : (Jvm.Cond.code ({ cls := "FlockCountsModel", name := "read", desc := "(II)I" } : Jvm.MethodName) prog_7_method_95_code (6 : Nat) (Option.some Jvm.ClassFile.FieldType.int)) ∈ wsL := wsL_t (tb_in5 (List.mem_of_getElem? (i := 133) rfl)) rfl
theorem wt5_134 : (Jvm.Cond.methodLink "FlockCountsModel" (314 : Nat) ({ cls := "FlockCountsModel", name := "isBook", desc := "(II)Z" } : Jvm.MethodName)) ∈ wsL := wsL_t (tb_in5 (List.mem_of_getElem? (i := 134) rfl)) rfl
theorem wt5_136 : (Jvm.Cond.instanceMethod ({ cls := "FlockCountsModel", name := "isBook", desc := "(II)Z" } : Jvm.MethodName)) ∈ wsL := wsL_t (tb_in5 (List.mem_of_getElem? (i := 136) rfl)) rfl
theorem wt5_137 : (Jvm.Cond.code ({ cls := "FlockCountsModel", name := "isBook", desc := "(II)Z" } : Jvm.MethodName) prog_7_method_94_code (4 : Nat) (Option.some Jvm.ClassFile.FieldType.boolean)) ∈ wsL := wsL_t (tb_in5 (List.mem_of_getElem? (i := 137) rfl)) rfl
theorem wt5_138 : (Jvm.Cond.methodLink "FlockCountsLaw" (164 : Nat) ({ cls := "FlockCountsModel", name := "image", desc := "()I" } : Jvm.MethodName)) ∈ wsL := wsL_t (tb_in5 (List.mem_of_getElem? (i := 138) rfl)) rfl
theorem wt5_139 : (Jvm.Cond.instanceMethod ({ cls := "FlockCountsModel", name := "image", desc := "()I" } : Jvm.MethodName)) ∈ wsL := wsL_t (tb_in5 (List.mem_of_getElem? (i := 139) rfl)) rfl
theorem wt5_140 : (Jvm.Cond.selects "FlockCountsModel" ({ cls := "FlockCountsModel", name := "image", desc := "()I" } : Jvm.MethodName) ({ cls := "FlockCountsModel", name := "image", desc := "()I" } : Jvm.MethodName)) ∈ wsL := wsL_t (tb_in5 (List.mem_of_getElem? (i := 140) rfl)) rfl
theorem wt5_141 : (Jvm.Cond.code ({ cls := "FlockCountsModel", name := "image", desc := "()I" } : Jvm.MethodName) prog_7_method_96_code (2 : Nat) (Option.some Jvm.ClassFile.FieldType.int)) ∈ wsL := wsL_t (tb_in5 (List.mem_of_getElem? (i := 141) rfl)) rfl
theorem wt5_142 : (Jvm.Cond.methodLink "FlockCountsLaw" (168 : Nat) ({ cls := "FlockCountsModel", name := "undo", desc := "()I" } : Jvm.MethodName)) ∈ wsL := wsL_t (tb_in5 (List.mem_of_getElem? (i := 142) rfl)) rfl
theorem wt5_143 : (Jvm.Cond.instanceMethod ({ cls := "FlockCountsModel", name := "undo", desc := "()I" } : Jvm.MethodName)) ∈ wsL := wsL_t (tb_in5 (List.mem_of_getElem? (i := 143) rfl)) rfl
theorem wt5_144 : (Jvm.Cond.selects "FlockCountsModel" ({ cls := "FlockCountsModel", name := "undo", desc := "()I" } : Jvm.MethodName) ({ cls := "FlockCountsModel", name := "undo", desc := "()I" } : Jvm.MethodName)) ∈ wsL := wsL_t (tb_in5 (List.mem_of_getElem? (i := 144) rfl)) rfl
theorem wt5_145 : (Jvm.Cond.code ({ cls := "FlockCountsModel", name := "undo", desc := "()I" } : Jvm.MethodName) prog_7_method_97_code (2 : Nat) (Option.some Jvm.ClassFile.FieldType.int)) ∈ wsL := wsL_t (tb_in5 (List.mem_of_getElem? (i := 145) rfl)) rfl
theorem wt5_146 : (Jvm.Cond.methodLink "FlockCountsLaw" (172 : Nat) ({ cls := "FlockCountsModel", name := "tear", desc := "()I" } : Jvm.MethodName)) ∈ wsL := wsL_t (tb_in5 (List.mem_of_getElem? (i := 146) rfl)) rfl
theorem wt5_147 : (Jvm.Cond.instanceMethod ({ cls := "FlockCountsModel", name := "tear", desc := "()I" } : Jvm.MethodName)) ∈ wsL := wsL_t (tb_in5 (List.mem_of_getElem? (i := 147) rfl)) rfl
theorem wt5_148 : (Jvm.Cond.selects "FlockCountsModel" ({ cls := "FlockCountsModel", name := "tear", desc := "()I" } : Jvm.MethodName) ({ cls := "FlockCountsModel", name := "tear", desc := "()I" } : Jvm.MethodName)) ∈ wsL := wsL_t (tb_in5 (List.mem_of_getElem? (i := 148) rfl)) rfl
theorem wt5_149 : (Jvm.Cond.code ({ cls := "FlockCountsModel", name := "tear", desc := "()I" } : Jvm.MethodName) prog_7_method_98_code (2 : Nat) (Option.some Jvm.ClassFile.FieldType.int)) ∈ wsL := wsL_t (tb_in5 (List.mem_of_getElem? (i := 149) rfl)) rfl
theorem wt5_150 : (Jvm.Cond.methodLink "FlockCountsLaw" (176 : Nat) ({ cls := "FlockCountsModel", name := "count", desc := "(I)I" } : Jvm.MethodName)) ∈ wsL := wsL_t (tb_in5 (List.mem_of_getElem? (i := 150) rfl)) rfl
theorem wt5_151 : (Jvm.Cond.instanceMethod ({ cls := "FlockCountsModel", name := "count", desc := "(I)I" } : Jvm.MethodName)) ∈ wsL := wsL_t (tb_in5 (List.mem_of_getElem? (i := 151) rfl)) rfl
theorem wt5_152 : (Jvm.Cond.selects "FlockCountsModel" ({ cls := "FlockCountsModel", name := "count", desc := "(I)I" } : Jvm.MethodName) ({ cls := "FlockCountsModel", name := "count", desc := "(I)I" } : Jvm.MethodName)) ∈ wsL := wsL_t (tb_in5 (List.mem_of_getElem? (i := 152) rfl)) rfl
theorem wt5_153 : (Jvm.Cond.code ({ cls := "FlockCountsModel", name := "count", desc := "(I)I" } : Jvm.MethodName) prog_7_method_99_code (2 : Nat) (Option.some Jvm.ClassFile.FieldType.int)) ∈ wsL := wsL_t (tb_in5 (List.mem_of_getElem? (i := 153) rfl)) rfl
theorem wt5_154 : (Jvm.Cond.methodLink "FlockCountsLaw" (180 : Nat) ({ cls := "FlockCountsModel", name := "status", desc := "(I)I" } : Jvm.MethodName)) ∈ wsL := wsL_t (tb_in5 (List.mem_of_getElem? (i := 154) rfl)) rfl
theorem wt5_155 : (Jvm.Cond.instanceMethod ({ cls := "FlockCountsModel", name := "status", desc := "(I)I" } : Jvm.MethodName)) ∈ wsL := wsL_t (tb_in5 (List.mem_of_getElem? (i := 155) rfl)) rfl
theorem wt5_156 : (Jvm.Cond.selects "FlockCountsModel" ({ cls := "FlockCountsModel", name := "status", desc := "(I)I" } : Jvm.MethodName) ({ cls := "FlockCountsModel", name := "status", desc := "(I)I" } : Jvm.MethodName)) ∈ wsL := wsL_t (tb_in5 (List.mem_of_getElem? (i := 156) rfl)) rfl
theorem wt5_157 : (Jvm.Cond.code ({ cls := "FlockCountsModel", name := "status", desc := "(I)I" } : Jvm.MethodName) prog_7_method_100_code (4 : Nat) (Option.some Jvm.ClassFile.FieldType.int)) ∈ wsL := wsL_t (tb_in5 (List.mem_of_getElem? (i := 157) rfl)) rfl
theorem wt5_158 : (Jvm.Cond.constantLong "FlockCountsModel" (320 : Nat) (-1 : Int64)) ∈ wsL := wsL_t (tb_in5 (List.mem_of_getElem? (i := 158) rfl)) rfl
theorem wt5_159 : (Jvm.Cond.constantLong "FlockCountsModel" (322 : Nat) (6 : Int64)) ∈ wsL := wsL_t (tb_in5 (List.mem_of_getElem? (i := 159) rfl)) rfl
theorem wt5_160 : (Jvm.Cond.constantLong "FlockCountsLaw" (137 : Nat) (4294967295 : Int64)) ∈ wsL := wsL_t (tb_in5 (List.mem_of_getElem? (i := 160) rfl)) rfl
theorem wt5_161 : (Jvm.Cond.fieldLink "java/lang/String" (9 : Nat) "java/lang/String" "value" "[B") ∈ wsL := wsL_t (tb_in5 (List.mem_of_getElem? (i := 161) rfl)) rfl
theorem wt5_162 : (Jvm.Cond.fieldLink "java/lang/String" (15 : Nat) "java/lang/String" "coder" "B") ∈ wsL := wsL_t (tb_in5 (List.mem_of_getElem? (i := 162) rfl)) rfl
theorem wp0 : Cond.selects "FlockCounts" ⟨"FlockCounts", "tell", "(I)I"⟩ ⟨"FlockCounts", "tell", "(I)I"⟩ ∈ wsL := wsL_s (List.mem_of_getElem? (i := 0) rfl) rfl
theorem wp1 : Cond.selects "FlockCounts$Fold" ⟨"FlockCounts$Fold", "playMinute", "()V"⟩ ⟨"FlockCounts$Fold", "playMinute", "()V"⟩ ∈ wsL := wsL_s (List.mem_of_getElem? (i := 1) rfl) rfl
theorem wp2 : Cond.selects "FlockCounts$Fold" ⟨"FlockCounts$Fold", "pass", "(I)V"⟩ ⟨"FlockCounts$Fold", "pass", "(I)V"⟩ ∈ wsL := wsL_s (List.mem_of_getElem? (i := 2) rfl) rfl
theorem wp3 : Cond.selects "FlockCounts$Fold" ⟨"FlockCounts$Fold", "stayAlone", "()V"⟩ ⟨"FlockCounts$Fold", "stayAlone", "()V"⟩ ∈ wsL := wsL_s (List.mem_of_getElem? (i := 3) rfl) rfl
theorem wp4 : Cond.selects "FlockCounts" ⟨"FlockCounts", "startTrial", "()V"⟩ ⟨"FlockCounts", "startTrial", "()V"⟩ ∈ wsL := wsL_s (List.mem_of_getElem? (i := 4) rfl) rfl
theorem wp5 : Cond.selects "FlockCounts" ⟨"FlockCounts", "withinWait", "(I)I"⟩ ⟨"FlockCounts", "withinWait", "(I)I"⟩ ∈ wsL := wsL_s (List.mem_of_getElem? (i := 5) rfl) rfl
theorem wp6 : Cond.selects "FlockCounts" ⟨"FlockCounts", "answer", "(I)I"⟩ ⟨"FlockCounts", "answer", "(I)I"⟩ ∈ wsL := wsL_s (List.mem_of_getElem? (i := 6) rfl) rfl
theorem wp7 : Cond.selects "FlockCounts" ⟨"FlockCounts", "wearWhenOut", "(II)I"⟩ ⟨"FlockCounts", "wearWhenOut", "(II)I"⟩ ∈ wsL := wsL_s (List.mem_of_getElem? (i := 7) rfl) rfl
theorem wp8 : Cond.selects "FlockCounts$Tape" ⟨"FlockCounts$Tape", "nextToken", "()V"⟩ ⟨"FlockCounts$Tape", "nextToken", "()V"⟩ ∈ wsL := wsL_s (List.mem_of_getElem? (i := 8) rfl) rfl
theorem wp9 : Cond.selects "FlockCounts$Tape" ⟨"FlockCounts$Tape", "sortAt", "(I)I"⟩ ⟨"FlockCounts$Tape", "sortAt", "(I)I"⟩ ∈ wsL := wsL_s (List.mem_of_getElem? (i := 9) rfl) rfl
theorem wp10 : Cond.selects "FlockCounts$Tape" ⟨"FlockCounts$Tape", "takeItem", "(LFlockCounts$Fold;)Z"⟩ ⟨"FlockCounts$Tape", "takeItem", "(LFlockCounts$Fold;)Z"⟩ ∈ wsL := wsL_s (List.mem_of_getElem? (i := 10) rfl) rfl
theorem wp11 : Cond.selects "FlockCounts$Tape" ⟨"FlockCounts$Tape", "isWord", "(Ljava/lang/String;)Z"⟩ ⟨"FlockCounts$Tape", "isWord", "(Ljava/lang/String;)Z"⟩ ∈ wsL := wsL_s (List.mem_of_getElem? (i := 11) rfl) rfl
theorem wp12 : Cond.selects "FlockCounts$Tape" ⟨"FlockCounts$Tape", "takeMan", "(LFlockCounts$Fold;)Z"⟩ ⟨"FlockCounts$Tape", "takeMan", "(LFlockCounts$Fold;)Z"⟩ ∈ wsL := wsL_s (List.mem_of_getElem? (i := 12) rfl) rfl
theorem wp13 : Cond.selects "FlockCounts$Tape" ⟨"FlockCounts$Tape", "takeWord", "(Ljava/lang/String;)Z"⟩ ⟨"FlockCounts$Tape", "takeWord", "(Ljava/lang/String;)Z"⟩ ∈ wsL := wsL_s (List.mem_of_getElem? (i := 13) rfl) rfl
theorem wp14 : Cond.selects "FlockCounts$Tape" ⟨"FlockCounts$Tape", "takeNumberAfter", "(Ljava/lang/String;II)I"⟩ ⟨"FlockCounts$Tape", "takeNumberAfter", "(Ljava/lang/String;II)I"⟩ ∈ wsL := wsL_s (List.mem_of_getElem? (i := 14) rfl) rfl
theorem wp15 : Cond.selects "FlockCounts$Tape" ⟨"FlockCounts$Tape", "numberHere", "()I"⟩ ⟨"FlockCounts$Tape", "numberHere", "()I"⟩ ∈ wsL := wsL_s (List.mem_of_getElem? (i := 15) rfl) rfl
theorem wp16 : Cond.selects "FlockCounts$Tape" ⟨"FlockCounts$Tape", "kindNamed", "()I"⟩ ⟨"FlockCounts$Tape", "kindNamed", "()I"⟩ ∈ wsL := wsL_s (List.mem_of_getElem? (i := 16) rfl) rfl
theorem wp17 : Cond.selects "FlockCounts$Tape" ⟨"FlockCounts$Tape", "takeSheep", "(LFlockCounts$Fold;I)Z"⟩ ⟨"FlockCounts$Tape", "takeSheep", "(LFlockCounts$Fold;I)Z"⟩ ∈ wsL := wsL_s (List.mem_of_getElem? (i := 17) rfl) rfl
theorem wp18 : Cond.selects "FlockCounts" ⟨"FlockCounts", "isSheet", "(I)Z"⟩ ⟨"FlockCounts", "isSheet", "(I)Z"⟩ ∈ wsL := wsL_s (List.mem_of_getElem? (i := 18) rfl) rfl
theorem wp19 : Cond.selects "FlockCounts" ⟨"FlockCounts", "missingSheet", "(I)I"⟩ ⟨"FlockCounts", "missingSheet", "(I)I"⟩ ∈ wsL := wsL_s (List.mem_of_getElem? (i := 19) rfl) rfl
theorem wp20 : Cond.selects "FlockCounts" ⟨"FlockCounts", "trialSees", "(LFlockCounts$Sheet;I)Z"⟩ ⟨"FlockCounts", "trialSees", "(LFlockCounts$Sheet;I)Z"⟩ ∈ wsL := wsL_s (List.mem_of_getElem? (i := 20) rfl) rfl
theorem wp21 : Cond.selects "FlockCountsModel" ⟨"FlockCountsModel", "finds", "(I)I"⟩ ⟨"FlockCountsModel", "finds", "(I)I"⟩ ∈ wsL := wsL_s (List.mem_of_getElem? (i := 21) rfl) rfl
theorem wp22 : Cond.selects "FlockCountsModel" ⟨"FlockCountsModel", "addsMan", "(I)I"⟩ ⟨"FlockCountsModel", "addsMan", "(I)I"⟩ ∈ wsL := wsL_s (List.mem_of_getElem? (i := 22) rfl) rfl
theorem wp23 : Cond.selects "FlockCountsModel" ⟨"FlockCountsModel", "isMan", "(I)Z"⟩ ⟨"FlockCountsModel", "isMan", "(I)Z"⟩ ∈ wsL := wsL_s (List.mem_of_getElem? (i := 23) rfl) rfl
theorem wp24 : Cond.selects "FlockCountsModel" ⟨"FlockCountsModel", "his", "(II)I"⟩ ⟨"FlockCountsModel", "his", "(II)I"⟩ ∈ wsL := wsL_s (List.mem_of_getElem? (i := 24) rfl) rfl
theorem wp25 : Cond.selects "FlockCountsModel" ⟨"FlockCountsModel", "becomes", "(II)I"⟩ ⟨"FlockCountsModel", "becomes", "(II)I"⟩ ∈ wsL := wsL_s (List.mem_of_getElem? (i := 25) rfl) rfl
theorem wp26 : Cond.selects "FlockCountsModel" ⟨"FlockCountsModel", "adds", "(I)I"⟩ ⟨"FlockCountsModel", "adds", "(I)I"⟩ ∈ wsL := wsL_s (List.mem_of_getElem? (i := 26) rfl) rfl
theorem wp27 : Cond.selects "FlockCountsModel" ⟨"FlockCountsModel", "isSheep", "(I)Z"⟩ ⟨"FlockCountsModel", "isSheep", "(I)Z"⟩ ∈ wsL := wsL_s (List.mem_of_getElem? (i := 27) rfl) rfl
theorem wp28 : Cond.selects "FlockCountsModel" ⟨"FlockCountsModel", "isAsleep", "(I)Z"⟩ ⟨"FlockCountsModel", "isAsleep", "(I)Z"⟩ ∈ wsL := wsL_s (List.mem_of_getElem? (i := 28) rfl) rfl
theorem wp29 : Cond.selects "FlockCountsModel" ⟨"FlockCountsModel", "its", "(II)I"⟩ ⟨"FlockCountsModel", "its", "(II)I"⟩ ∈ wsL := wsL_s (List.mem_of_getElem? (i := 29) rfl) rfl
theorem wp30 : Cond.selects "FlockCountsModel" ⟨"FlockCountsModel", "wakesOf", "(I)I"⟩ ⟨"FlockCountsModel", "wakesOf", "(I)I"⟩ ∈ wsL := wsL_s (List.mem_of_getElem? (i := 30) rfl) rfl
theorem wp31 : Cond.selects "FlockCountsModel" ⟨"FlockCountsModel", "tiresOf", "(I)I"⟩ ⟨"FlockCountsModel", "tiresOf", "(I)I"⟩ ∈ wsL := wsL_s (List.mem_of_getElem? (i := 31) rfl) rfl
theorem wp32 : Cond.selects "FlockCountsModel" ⟨"FlockCountsModel", "countsOf", "(II)I"⟩ ⟨"FlockCountsModel", "countsOf", "(II)I"⟩ ∈ wsL := wsL_s (List.mem_of_getElem? (i := 32) rfl) rfl
theorem wp33 : Cond.selects "FlockCountsModel" ⟨"FlockCountsModel", "minutesGo", "(I)V"⟩ ⟨"FlockCountsModel", "minutesGo", "(I)V"⟩ ∈ wsL := wsL_s (List.mem_of_getElem? (i := 33) rfl) rfl
theorem wp34 : Cond.selects "FlockCountsModel" ⟨"FlockCountsModel", "minute", "()V"⟩ ⟨"FlockCountsModel", "minute", "()V"⟩ ∈ wsL := wsL_s (List.mem_of_getElem? (i := 34) rfl) rfl
theorem wp35 : Cond.selects "FlockCountsModel" ⟨"FlockCountsModel", "isPassing", "(I)Z"⟩ ⟨"FlockCountsModel", "isPassing", "(I)Z"⟩ ∈ wsL := wsL_s (List.mem_of_getElem? (i := 35) rfl) rfl
theorem wp36 : Cond.selects "FlockCountsModel" ⟨"FlockCountsModel", "passes", "(I)V"⟩ ⟨"FlockCountsModel", "passes", "(I)V"⟩ ∈ wsL := wsL_s (List.mem_of_getElem? (i := 36) rfl) rfl
theorem wp37 : Cond.selects "FlockCountsModel" ⟨"FlockCountsModel", "nobodyPasses", "()V"⟩ ⟨"FlockCountsModel", "nobodyPasses", "()V"⟩ ∈ wsL := wsL_s (List.mem_of_getElem? (i := 37) rfl) rfl
theorem wp38 : Cond.selects "FlockCountsModel" ⟨"FlockCountsModel", "asleep", "()I"⟩ ⟨"FlockCountsModel", "asleep", "()I"⟩ ∈ wsL := wsL_s (List.mem_of_getElem? (i := 38) rfl) rfl
theorem wp39 : Cond.selects "FlockCountsModel" ⟨"FlockCountsModel", "together", "(I)I"⟩ ⟨"FlockCountsModel", "together", "(I)I"⟩ ∈ wsL := wsL_s (List.mem_of_getElem? (i := 39) rfl) rfl
theorem wp40 : Cond.selects "FlockCountsModel" ⟨"FlockCountsModel", "wearOf", "(I)I"⟩ ⟨"FlockCountsModel", "wearOf", "(I)I"⟩ ∈ wsL := wsL_s (List.mem_of_getElem? (i := 40) rfl) rfl
theorem wp41 : Cond.selects "FlockCountsModel" ⟨"FlockCountsModel", "passing", "()I"⟩ ⟨"FlockCountsModel", "passing", "()I"⟩ ∈ wsL := wsL_s (List.mem_of_getElem? (i := 41) rfl) rfl
theorem wp42 : Cond.selects "FlockCountsModel" ⟨"FlockCountsModel", "behind", "(II)I"⟩ ⟨"FlockCountsModel", "behind", "(II)I"⟩ ∈ wsL := wsL_s (List.mem_of_getElem? (i := 42) rfl) rfl
theorem wp43 : Cond.selects "FlockCountsModel" ⟨"FlockCountsModel", "laysAside", "()V"⟩ ⟨"FlockCountsModel", "laysAside", "()V"⟩ ∈ wsL := wsL_s (List.mem_of_getElem? (i := 43) rfl) rfl
theorem wp44 : Cond.selects "FlockCountsModel" ⟨"FlockCountsModel", "takesBack", "(I)I"⟩ ⟨"FlockCountsModel", "takesBack", "(I)I"⟩ ∈ wsL := wsL_s (List.mem_of_getElem? (i := 44) rfl) rfl
theorem wp45 : Cond.selects "FlockCountsModel" ⟨"FlockCountsModel", "firstAs", "(III)I"⟩ ⟨"FlockCountsModel", "firstAs", "(III)I"⟩ ∈ wsL := wsL_s (List.mem_of_getElem? (i := 45) rfl) rfl
theorem wp46 : Cond.selects "FlockCountsModel" ⟨"FlockCountsModel", "orNone", "(II)I"⟩ ⟨"FlockCountsModel", "orNone", "(II)I"⟩ ∈ wsL := wsL_s (List.mem_of_getElem? (i := 46) rfl) rfl
theorem wp47 : Cond.selects "FlockCountsModel" ⟨"FlockCountsModel", "quietIn", "(I)I"⟩ ⟨"FlockCountsModel", "quietIn", "(I)I"⟩ ∈ wsL := wsL_s (List.mem_of_getElem? (i := 47) rfl) rfl
theorem wp48 : Cond.selects "FlockCountsModel" ⟨"FlockCountsModel", "begins", "(I)V"⟩ ⟨"FlockCountsModel", "begins", "(I)V"⟩ ∈ wsL := wsL_s (List.mem_of_getElem? (i := 48) rfl) rfl
theorem wp49 : Cond.selects "FlockCountsModel" ⟨"FlockCountsModel", "tries", "(II)V"⟩ ⟨"FlockCountsModel", "tries", "(II)V"⟩ ∈ wsL := wsL_s (List.mem_of_getElem? (i := 49) rfl) rfl
theorem wp50 : Cond.selects "FlockCountsModel" ⟨"FlockCountsModel", "bestOrNone", "()I"⟩ ⟨"FlockCountsModel", "bestOrNone", "()I"⟩ ∈ wsL := wsL_s (List.mem_of_getElem? (i := 50) rfl) rfl
theorem wp51 : Cond.selects "FlockCountsModel" ⟨"FlockCountsModel", "swaps", "(II)V"⟩ ⟨"FlockCountsModel", "swaps", "(II)V"⟩ ∈ wsL := wsL_s (List.mem_of_getElem? (i := 51) rfl) rfl
theorem wp52 : Cond.selects "FlockCountsModel" ⟨"FlockCountsModel", "saves", "()V"⟩ ⟨"FlockCountsModel", "saves", "()V"⟩ ∈ wsL := wsL_s (List.mem_of_getElem? (i := 52) rfl) rfl
theorem wp53 : Cond.selects "FlockCountsModel" ⟨"FlockCountsModel", "token", "()V"⟩ ⟨"FlockCountsModel", "token", "()V"⟩ ∈ wsL := wsL_s (List.mem_of_getElem? (i := 53) rfl) rfl
theorem wp54 : Cond.selects "FlockCountsModel" ⟨"FlockCountsModel", "byteAt", "(I)I"⟩ ⟨"FlockCountsModel", "byteAt", "(I)I"⟩ ∈ wsL := wsL_s (List.mem_of_getElem? (i := 54) rfl) rfl
theorem wp55 : Cond.selects "FlockCountsModel" ⟨"FlockCountsModel", "item", "()V"⟩ ⟨"FlockCountsModel", "item", "()V"⟩ ∈ wsL := wsL_s (List.mem_of_getElem? (i := 55) rfl) rfl
theorem wp56 : Cond.selects "FlockCountsModel" ⟨"FlockCountsModel", "kindHere", "()I"⟩ ⟨"FlockCountsModel", "kindHere", "()I"⟩ ∈ wsL := wsL_s (List.mem_of_getElem? (i := 56) rfl) rfl
theorem wp57 : Cond.selects "FlockCountsModel" ⟨"FlockCountsModel", "word", "()J"⟩ ⟨"FlockCountsModel", "word", "()J"⟩ ∈ wsL := wsL_s (List.mem_of_getElem? (i := 57) rfl) rfl
theorem wp58 : Cond.selects "FlockCountsModel" ⟨"FlockCountsModel", "sheepItem", "(I)V"⟩ ⟨"FlockCountsModel", "sheepItem", "(I)V"⟩ ∈ wsL := wsL_s (List.mem_of_getElem? (i := 58) rfl) rfl
theorem wp59 : Cond.selects "FlockCountsModel" ⟨"FlockCountsModel", "must", "(Z)V"⟩ ⟨"FlockCountsModel", "must", "(Z)V"⟩ ∈ wsL := wsL_s (List.mem_of_getElem? (i := 59) rfl) rfl
theorem wp60 : Cond.selects "FlockCountsModel" ⟨"FlockCountsModel", "partItem", "(JII)V"⟩ ⟨"FlockCountsModel", "partItem", "(JII)V"⟩ ∈ wsL := wsL_s (List.mem_of_getElem? (i := 60) rfl) rfl
theorem wp61 : Cond.selects "FlockCountsModel" ⟨"FlockCountsModel", "number", "(II)V"⟩ ⟨"FlockCountsModel", "number", "(II)V"⟩ ∈ wsL := wsL_s (List.mem_of_getElem? (i := 61) rfl) rfl
theorem wp62 : Cond.selects "FlockCountsModel" ⟨"FlockCountsModel", "manItem", "()V"⟩ ⟨"FlockCountsModel", "manItem", "()V"⟩ ∈ wsL := wsL_s (List.mem_of_getElem? (i := 62) rfl) rfl
theorem wp63 : Cond.selects "FlockCountsModel" ⟨"FlockCountsModel", "bitHere", "(JI)I"⟩ ⟨"FlockCountsModel", "bitHere", "(JI)I"⟩ ∈ wsL := wsL_s (List.mem_of_getElem? (i := 63) rfl) rfl
theorem wp64 : Cond.selects "FlockCountsModel" ⟨"FlockCountsModel", "putsBack", "()V"⟩ ⟨"FlockCountsModel", "putsBack", "()V"⟩ ∈ wsL := wsL_s (List.mem_of_getElem? (i := 64) rfl) rfl
theorem wp65 : Cond.selects "FlockCountsModel" ⟨"FlockCountsModel", "wrongSheet", "(I)I"⟩ ⟨"FlockCountsModel", "wrongSheet", "(I)I"⟩ ∈ wsL := wsL_s (List.mem_of_getElem? (i := 65) rfl) rfl
theorem wp66 : Cond.selects "FlockCountsModel" ⟨"FlockCountsModel", "wrongBook", "(II)I"⟩ ⟨"FlockCountsModel", "wrongBook", "(II)I"⟩ ∈ wsL := wsL_s (List.mem_of_getElem? (i := 66) rfl) rfl
theorem wp67 : Cond.selects "FlockCountsModel" ⟨"FlockCountsModel", "isBook", "(II)Z"⟩ ⟨"FlockCountsModel", "isBook", "(II)Z"⟩ ∈ wsL := wsL_s (List.mem_of_getElem? (i := 67) rfl) rfl
theorem inX0 : ∀ w ∈ wsX00, w ∈ wsL := fun w hw => by
  obtain ⟨k, hk, rfl⟩ := List.mem_map.mp hw
  have h := List.mem_range.mp hk
  match k, h with
  | 0, _ => exact wt1_48
  | 1, _ => exact wt1_50
  | 2, _ => exact wt1_52
  | 3, _ => exact wt1_54
  | 4, _ => exact wt1_56
  | 5, _ => exact wt1_58
  | 6, _ => exact wt1_60
  | 7, _ => exact wt1_62
  | 8, _ => exact wt1_64
  | 9, _ => exact wt1_66
  | k + 10, h => exact absurd h (by omega)
theorem inX2 : ∀ w ∈ wsX20, w ∈ wsL := fun w hw => by
  obtain ⟨k, hk, rfl⟩ := List.mem_map.mp hw
  have h := List.mem_range.mp hk
  match k, h with
  | 0, _ => exact wt1_106
  | 1, _ => exact wt1_108
  | 2, _ => exact wt1_110
  | k + 3, h => exact absurd h (by omega)
theorem inX3 : ∀ w ∈ wsX30, w ∈ wsL := fun w hw => by
  obtain ⟨k, hk, rfl⟩ := List.mem_map.mp hw
  have h := List.mem_range.mp hk
  match k, h with
  | 0, _ => exact wt1_82
  | 1, _ => exact wt1_84
  | 2, _ => exact wt1_86
  | 3, _ => exact wt1_88
  | 4, _ => exact wt1_90
  | k + 5, h => exact absurd h (by omega)
theorem inX4 : ∀ w ∈ wsX40, w ∈ wsL := fun w hw => by
  obtain ⟨k, hk, rfl⟩ := List.mem_map.mp hw
  have h := List.mem_range.mp hk
  match k, h with
  | 0, _ => exact wt1_121
  | 1, _ => exact wt1_123
  | 2, _ => exact wt1_125
  | 3, _ => exact wt1_127
  | 4, _ => exact wt1_129
  | 5, _ => exact wt1_131
  | 6, _ => exact wt1_133
  | k + 7, h => exact absurd h (by omega)
theorem inX5 : ∀ w ∈ wsX50, w ∈ wsL := fun w hw => by
  obtain ⟨k, hk, rfl⟩ := List.mem_map.mp hw
  have h := List.mem_range.mp hk
  match k, h with
  | 0, _ => exact wt3_182
  | 1, _ => exact wt3_184
  | 2, _ => exact wt3_186
  | 3, _ => exact wt3_188
  | 4, _ => exact wt3_190
  | 5, _ => exact wt3_192
  | 6, _ => exact wt3_194
  | 7, _ => exact wt3_196
  | 8, _ => exact wt3_198
  | 9, _ => exact wt3_200
  | 10, _ => exact wt3_202
  | 11, _ => exact wt3_204
  | 12, _ => exact wt3_206
  | 13, _ => exact wt3_208
  | 14, _ => exact wt3_210
  | 15, _ => exact wt3_212
  | 16, _ => exact wt3_214
  | 17, _ => exact wt3_216
  | k + 18, h => exact absurd h (by omega)
end
section
/-! THE LAYER: a judgement Rn over the kit's W, with numbers as integers, all cells of the system in one store σ by their indices, and one word list for all methods -/
def vi (z : Int) : Value := .int (Int32.ofInt z)
def vl (z : Int) : Value := .long (Int64.ofInt z)
def inR (z : Int) : Prop := -2147483648 ≤ z ∧ z ≤ 2147483647
def inL (z : Int) : Prop := -9223372036854775808 ≤ z ∧ z ≤ 9223372036854775807
theorem i32_toInt {z : Int} (h : inR z) : (Int32.ofInt z).toInt = z := Int32.toInt_ofInt_of_le (by have := h.1; omega) (by have := h.2; omega)
theorem i64_toInt {z : Int} (h : inL z) : (Int64.ofInt z).toInt = z := Int64.toInt_ofInt_of_le (by have := h.1; omega) (by have := h.2; omega)
theorem i32_eq {a b : Int} (ha : inR a) (hb : inR b) : Int32.ofInt a = Int32.ofInt b ↔ a = b := by
  rw [← Int32.toInt_inj, i32_toInt ha, i32_toInt hb]
theorem i32_lt {a b : Int} (ha : inR a) (hb : inR b) : Int32.ofInt a < Int32.ofInt b ↔ a < b := by
  rw [Int32.lt_iff_toInt_lt, i32_toInt ha, i32_toInt hb]
theorem i32_le {a b : Int} (ha : inR a) (hb : inR b) : Int32.ofInt a ≤ Int32.ofInt b ↔ a ≤ b := by
  rw [Int32.le_iff_toInt_le, i32_toInt ha, i32_toInt hb]
theorem i64_eq {a b : Int} (ha : inL a) (hb : inL b) : Int64.ofInt a = Int64.ofInt b ↔ a = b := by
  rw [← Int64.toInt_inj, i64_toInt ha, i64_toInt hb]
theorem i64_lt {a b : Int} (ha : inL a) (hb : inL b) : Int64.ofInt a < Int64.ofInt b ↔ a < b := by
  rw [Int64.lt_iff_toInt_lt, i64_toInt ha, i64_toInt hb]
theorem i32_z : (0 : Int32) = Int32.ofInt 0 := rfl
theorem inR0 : inR 0 := by constructor <;> omega
theorem inR_any (x : Int32) : inR x.toInt := ⟨Int32.le_toInt x, by have := Int32.toInt_lt x; omega⟩
theorem inL_any (x : Int64) : inL x.toInt := ⟨Int64.le_toInt x, by have := Int64.toInt_lt x; omega⟩
theorem vi_any (x : Int32) : Value.int x = vi x.toInt := by rw [vi, Int32.ofInt_toInt]
theorem vl_any (x : Int64) : Value.long x = vl x.toInt := by rw [vl, Int64.ofInt_toInt]
/-- locals by their places -/
abbrev LL : Type := List (Option Value)
def al : Nat → LL → List (Nat × Value)
  | _, [] => []
  | i, none :: t => al (i + 1) t
  | i, some v :: t => (i, v) :: al (i + 1) t
theorem al_mem {v : Value} {j : Nat} : ∀ (L : LL) (i : Nat), (j, v) ∈ al i L ↔ ∃ k, j = i + k ∧ L[k]? = some (some v) := by
  intro L
  induction L with
  | nil => intro i; simp [al]
  | cons a t ih =>
    intro i
    cases a with
    | none =>
      rw [al, ih]
      constructor
      · rintro ⟨k, h1, h2⟩; exact ⟨k + 1, by omega, by simpa using h2⟩
      · rintro ⟨k, h1, h2⟩
        cases k with
        | zero => simp at h2
        | succ k => exact ⟨k, by omega, by simpa using h2⟩
    | some w =>
      rw [al, List.mem_cons, ih]
      constructor
      · rintro (h | ⟨k, h1, h2⟩)
        · obtain ⟨h1, h2⟩ := Prod.mk.inj h; exact ⟨0, by omega, by simp [h2]⟩
        · exact ⟨k + 1, by omega, by simpa using h2⟩
      · rintro ⟨k, h1, h2⟩
        cases k with
        | zero => left; simp at h2; rw [h2, h1]; rfl
        | succ k => right; exact ⟨k, by omega, by simpa using h2⟩
def LH (ls : Array Slot) (nL : Nat) (L : LL) : Prop := lv_has ls nL (al 0 L)
theorem LH.at {ls : Array Slot} {nL : Nat} {L : LL} (h : LH ls nL L) {k : Nat} {v : Value} (hk : L[k]? = some (some v)) : ls[k]? = some (.val v) :=
  h.2.2 (k, v) ((al_mem L 0).mpr ⟨k, by omega, hk⟩)
theorem LH.mono {ls : Array Slot} {nL : Nat} {L L' : LL} (h : LH ls nL L) (hs : ∀ (k : Nat) (v : Value), L'[k]? = some (some v) → L[k]? = some (some v)) : LH ls nL L' :=
  ⟨h.1, h.2.1, fun q hq => by
    obtain ⟨i, v⟩ := q
    obtain ⟨k, h1, h2⟩ := (al_mem L' 0).mp hq
    exact h.2.2 (i, v) ((al_mem L 0).mpr ⟨k, h1, hs k v h2⟩)⟩
/-- no long ends in this place -/
def ocat (a : Option Value) : Bool := match a with
  | none => true
  | some v => v.category == 1
def pcat (L : LL) (i : Nat) : Prop := ∀ j w, i = j + 1 → L[j]? = some (some w) → w.category = 1
theorem cat_or (v : Value) : v.category = 1 ∨ v.category = 2 := lv_cat v
theorem LH.set1 {ls : Array Slot} {nL : Nat} {L : LL} {i : Nat} {v : Value} (hc : pcat L i) (h : lv_has ls nL ((i, v) :: (al 0 L).filter (fun q => !(q.1 == i) && !(q.1 + 1 == i && q.2.category == 2)))) : LH ls nL (L.set i (some v)) :=
  ⟨h.1, h.2.1, fun q hq => by
    obtain ⟨j, w⟩ := q
    obtain ⟨k, h1, h2⟩ := (al_mem _ 0).mp hq
    have e : j = k := by omega
    subst e
    refine h.2.2 (j, w) ?_
    by_cases hj : j = i
    · subst hj
      rw [List.getElem?_set] at h2
      simp only [if_true] at h2
      split at h2
      · cases h2; exact List.mem_cons_self
      · cases h2
    · rw [List.getElem?_set_ne (Ne.symm hj)] at h2
      refine List.mem_cons_of_mem _ (List.mem_filter.mpr ⟨(al_mem L 0).mpr ⟨j, by omega, h2⟩, ?_⟩)
      have hcw : j + 1 = i → w.category = 1 := fun e => hc j w e.symm h2
      by_cases e : j + 1 = i
      · simp [hj, hcw e]
      · simp [hj, e]⟩
theorem LH.set2 {ls : Array Slot} {nL : Nat} {L : LL} {i : Nat} {v : Value} (hc : pcat L i) (h : lv_has ls nL ((i, v) :: (al 0 L).filter (fun q => !(q.1 == i) && (!(q.1 == i + 1) && !(q.1 + 1 == i && q.2.category == 2))))) : LH ls nL ((L.set i (some v)).set (i + 1) none) :=
  ⟨h.1, h.2.1, fun q hq => by
    obtain ⟨j, w⟩ := q
    obtain ⟨k, h1, h2⟩ := (al_mem _ 0).mp hq
    have e : j = k := by omega
    subst e
    refine h.2.2 (j, w) ?_
    by_cases hj1 : j = i + 1
    · subst hj1
      rw [List.getElem?_set] at h2
      simp only [if_true] at h2
      split at h2 <;> cases h2
    rw [List.getElem?_set_ne (Ne.symm hj1)] at h2
    by_cases hj : j = i
    · subst hj
      rw [List.getElem?_set] at h2
      simp only [if_true] at h2
      split at h2
      · cases h2; exact List.mem_cons_self
      · cases h2
    · rw [List.getElem?_set_ne (Ne.symm hj)] at h2
      refine List.mem_cons_of_mem _ (List.mem_filter.mpr ⟨(al_mem L 0).mpr ⟨j, by omega, h2⟩, ?_⟩)
      have hcw : j + 1 = i → w.category = 1 := fun e => hc j w e.symm h2
      by_cases e : j + 1 = i
      · simp [hj, hj1, hcw e]
      · simp [hj, hj1, e]⟩
/-- the world: numbers of classes and slots, the array classes, the cells' addresses, the constants' -/
abbrev GX : Type := va_G × (ClassId × ClassId × ClassId) × (Nat → Nat) × (Nat × Nat × Nat) × (Nat → Nat) × (Nat → Nat)
def NC : Nat := 42
abbrev SG : Type := Nat → va_E
def ad (G : GX) (i : Nat) : Nat := G.2.2.1 i
def rf (G : GX) (i : Nat) : Value := .ref (ad G i)
def gt (G : GX) : List (ClassId × FieldType) := [(G.2.1.1, .int), (G.2.1.2.1, .long), (G.2.1.2.2, .object "FlockCounts$Sheet")]
def AD (G : GX) : Nat → Prop := fun q => ∃ i, i < NC ∧ q = ad G i
def wl (G : GX) (σ : SG) : va_W := (List.range NC).map (fun i => (ad G i, σ i))
def GI (G : GX) : Prop := ∀ i j, i < NC → j < NC → ad G i = ad G j → i = j
theorem wl_get (G : GX) (σ : SG) {i : Nat} (h : i < NC) : (wl G σ)[i]? = some (ad G i, σ i) := by simp [wl, h]
theorem wl_of {G : GX} {σ : SG} {i : Nat} {q : Nat × va_E} (h : (wl G σ)[i]? = some q) : i < NC ∧ q = (ad G i, σ i) := by
  by_cases hi : i < NC
  · rw [wl_get G σ hi] at h; exact ⟨hi, (Option.some.inj h).symm⟩
  · simp [wl, hi] at h
theorem wl_set (G : GX) (σ : SG) {i : Nat} (h : i < NC) (e : va_E) : (wl G σ).set i (ad G i, e) = wl G (va_up σ i e) := by
  apply List.ext_getElem?
  intro j
  rw [List.getElem?_set]
  by_cases hj : i = j
  · subst hj
    rw [if_pos rfl, if_pos (by simp [wl, h]), wl_get G _ h, va_up_self]
  · rw [if_neg hj]
    by_cases hk : j < NC
    · rw [wl_get G _ hk, wl_get G _ hk, va_up_ne _ _ (Ne.symm hj)]
    · simp [wl, hk]
theorem wl_D {G : GX} (h : GI G) (σ : SG) : va_D (AD G) (wl G σ) :=
  ⟨fun i j p q hp hq hpq => by
    obtain ⟨h1, rfl⟩ := wl_of hp
    obtain ⟨h2, rfl⟩ := wl_of hq
    exact h i j h1 h2 hpq,
   fun k q hq => by
    obtain ⟨h1, rfl⟩ := wl_of hq
    exact ⟨k, h1, rfl⟩⟩
/-- the constants: static rows, texts -/
def fA (j : Nat) : Value := vi (([-1, 0, 0, 0, 1, 3] : List Int).getD j 0)
def fW (j : Nat) : Value := vi (([0, 1, 2, 0, 2, 0] : List Int).getD j 0)
def fT (j : Nat) : Value := vi (([1, 1, 0, 1, 2, 1] : List Int).getD j 0)
def lenJ : List Nat := [5, 3, 4, 6, 5, 3, 3, 5, 3, 5, 4, 4]
def bytJ : List (List Int32) := [[115, 104, 101, 101, 112], [101, 119, 101], [108, 97, 109, 98], [119, 101, 116, 104, 101, 114], [119, 97, 107, 101, 114], [116, 117, 112], [109, 97, 110], [119, 97, 110, 116, 115], [100, 111, 103], [115, 116, 105, 99, 107], [108, 105, 109, 112], [119, 111, 114, 110]]
def ownJ (i : Nat) : String := if i < 6 then "FlockCounts$Kinds" else "FlockCounts$Tape"
def entJ (i : Nat) : Nat := ([19, 9, 11, 13, 15, 17, 37, 68, 78, 83, 85, 87] : List Nat).getD i 0
def txtJ (i : Nat) : String := (["sheep", "ewe", "lamb", "wether", "waker", "tup", "man", "wants", "dog", "stick", "limp", "worn"] : List String).getD i ""
def aA (G : GX) : Nat := G.2.2.2.1.1
def aW (G : GX) : Nat := G.2.2.2.1.2.1
def aT (G : GX) : Nat := G.2.2.2.1.2.2
def adK (G : GX) : Nat → Nat := G.2.2.2.2.1
def adV (G : GX) : Nat → Nat := G.2.2.2.2.2
def CK (G : GX) (U : State) (H : Heap) : Prop :=
  va_Z "FlockCounts$Kinds" "ABOVE" "[I" (.ref (aA G)) (AD G) U H ∧ va_Z "FlockCounts$Kinds" "WAKES" "[I" (.ref (aW G)) (AD G) U H ∧ va_Z "FlockCounts$Kinds" "TIRES" "[I" (.ref (aT G)) (AD G) U H ∧
  va_T .int (aA G) 6 fA (AD G) U H ∧ va_T .int (aW G) 6 fW (AD G) U H ∧ va_T .int (aT G) 6 fT (AD G) U H ∧
  va_Z "java/lang/String" "COMPACT_STRINGS" "Z" (vi 1) (AD G) U H ∧ va_Zq "jdk/internal/util/Preconditions" "SIOOBE_FORMATTER" "Ljava/util/function/BiFunction;" (AD G) U H ∧
  vk_S 12 lenJ bytJ (adK G) (adV G) (AD G) U H ∧ ∀ i, i < 12 → vk_R (ownJ i) (entJ i) (txtJ i) (adK G i) U
theorem CK.kept {G : GX} {U : State} {H H1 : Heap} (h : CK G U H) (hq : ∀ a : Nat, a < H.size → ¬ AD G a → H1[a]? = H[a]?) : CK G U H1 := by
  obtain ⟨h1, h2, h3, h4, h5, h6, h7, h8, h9, h10⟩ := h
  exact ⟨h1.kept hq, h2.kept hq, h3.kept hq, h4.kept hq, h5.kept hq, h6.kept hq, h7.kept hq, h8.kept hq, h9.kept hq, h10⟩
theorem CK.warm {G : GX} {s U : State} {H : Heap} (hW : s.WarmedH U.vm) (h : CK G s H) : CK G U H := by
  obtain ⟨h1, h2, h3, h4, h5, h6, h7, h8, h9, h10⟩ := h
  have hv := hW.alike
  exact ⟨h1.moved hv, h2.moved hv, h3.moved hv, h4.moved hv, h5.moved hv, h6.moved hv, h7.moved hv, h8.moved hv, h9.moved hv, fun i hi => (h10 i hi).warm hW⟩
theorem CK.same {G : GX} {u U : State} {H : Heap} (hv : U.vm = u.vm) (h : CK G u H) : CK G U H := by
  obtain ⟨h1, h2, h3, h4, h5, h6, h7, h8, h9, h10⟩ := h
  have ha : u.vm.Alike U.vm := by rw [hv]; exact Vm.Alike.refl _
  exact ⟨h1.moved ha, h2.moved ha, h3.moved ha, h4.moved ha, h5.moved ha, h6.moved ha, h7.moved ha, h8.moved ha, h9.moved ha, fun i hi => (h10 i hi).same hv⟩
/-- a method: its name, code, locals, what it returns, frames and locals' words of its room -/
abbrev MI : Type := MethodName × ByteArray × Nat × Option FieldType × Nat × Nat
def Mrm (M : MI) : Room := { frames := M.2.2.2.2.1, cells := 0, slots := 0, locals := M.2.2.2.2.2 }
def Mws (M : MI) : List Cond := Cond.code M.1 M.2.1 M.2.2.1 M.2.2.2.1 :: wsL
def CX (G : GX) (M : MI) (p : Program) (s : State) (m : MethodId) (args : Array Value) (meth : Method) (c : Code) : Prop :=
  p.tables.exec = Jvm.exec ∧ c.code = M.2.1 ∧ meth.sig.returnType = M.2.2.2.1 ∧ c.maxLocals = M.2.2.1 ∧ s.vm.findClass M.1.cls = some m.cls ∧ (∀ w ∈ wsL, w.before args s = true) ∧ meth.locks = false ∧ va_K G.1 vwCl (gt G) s ∧ CK G s s.heap ∧ GI G
def HX (G : GX) (s : State) (H : Heap) (locs : List Loc) (σ : SG) : Prop := va_P G.1 vwCl (wl G σ) H ∧ va_S (AD G) s.heap H locs
def QX (G : GX) (r : Option Value) (σ' : SG) : Array Value → State → Outcome → State → Prop := fun _ st o t => o = .returned r ∧ va_P G.1 vwCl (wl G σ') t.heap ∧ va_F (AD G) st t
def Rn (G : GX) (M : MI) (pc : Nat) (L : LL) (st : List Value) (σ : SG) (r : Option Value) (σ' : SG) : Prop :=
  ∀ (p : Program) (l : Launch) (e : Env) (s : State) (m : MethodId) (args : Array Value) (below : List Frame) (meth : Method) (c : Code) (H : Heap) (locs : List Loc) (ls : Array Slot),
    CX G M p s m args meth c → HX G s H locs σ → LH ls M.2.2.1 L → W p l e (Mrm M) s m args below meth c H locs 0 0 (MQ below (QX G r σ') args s 0 0 (AD G)) (F0 m pc ls st)
def PX (G : GX) (σ : SG) : State → Prop := fun U => va_P G.1 vwCl (wl G σ) U.heap ∧ va_K G.1 vwCl (gt G) U ∧ CK G U U.heap
/-- method M, called with these arguments on the store σ, answers r and leaves σ' -/
def Ev (G : GX) (M : MI) (av : List Value) (σ : SG) (r : Option Value) (σ' : SG) : Prop :=
  GI G → ∀ l : Launch, Met l M.1 (Mws M) (Mrm M) (va_Pc av (PX G σ)) (QX G r σ') 0 0 (AD G)
theorem ws_good : wsL.all goodWord = true := List.all_eq_true.mpr fun w hw => (List.mem_filter.mp hw).2
theorem ws_in (M M2 : MI) (h : Cond.code M2.1 M2.2.1 M2.2.2.1 M2.2.2.2.1 ∈ wsL) : GoodIn wsL (Mws M2) := fun w hw => by
  have hm : w ∈ wsL := (List.mem_cons.mp hw).elim (fun e => e ▸ h) id
  exact ⟨hm, good_of_word (List.all_eq_true.mp ws_good w hm)⟩
/-- the locals with which a method begins -/
def lent : List Value → Nat → LL
  | [], n => List.replicate n none
  | v :: t, n => if v.category = 2 then some v :: none :: lent t (n - 2) else some v :: lent t (n - 1)
theorem lent_args (vs : List Value) : ∀ (n i k : Nat) (v : Value), (lent vs n)[k]? = some (some v) → (i + k, v) ∈ lv_args i vs := by
  induction vs with
  | nil =>
    intro n i k v h
    simp only [lent] at h
    have := List.eq_of_mem_replicate (List.mem_of_getElem? h)
    cases this
  | cons w t ih =>
    intro n i k v h
    by_cases hc : w.category = 2
    · simp only [lent, hc, if_true] at h
      match k, h with
      | 0, h => simp at h; subst h; simp [lv_args]
      | 1, h => simp at h
      | k + 2, h =>
        have h2 := ih (n - 2) (i + 2) k v (by simpa using h)
        simp only [lv_args, hc, if_true]
        refine List.mem_cons_of_mem _ ?_
        have e : i + (k + 2) = i + 2 + k := by omega
        rw [e]; exact h2
    · simp only [lent, hc, if_false] at h
      match k, h with
      | 0, h => simp at h; subst h; simp [lv_args]
      | k + 1, h =>
        have h2 := ih (n - 1) (i + 1) k v (by simpa using h)
        simp only [lv_args, hc, if_false]
        refine List.mem_cons_of_mem _ ?_
        have e : i + (k + 1) = i + 1 + k := by omega
        rw [e]; exact h2
theorem Ev.enter {G : GX} {M : MI} {av : List Value} {σ σ' : SG} {r : Option Value} (hy : plainName M.1.cls = true) (hn : (lg_sl av).length ≤ M.2.2.1) {L : LL} (hL : lent av M.2.2.1 = L) (k : Rn G M 0 L [] σ r σ') : Ev G M av σ r σ' := by
  intro hG l
  refine Met.ofW (cc := M.2.1) (maxL := M.2.2.1) (ret := M.2.2.2.1) (ws' := wsL) hy rfl ?_
  intro p e s m args below meth c s₁ B hml hv
  obtain ⟨rfl, hP, hK, hC⟩ := hv
  have hts := atoms_spec (ws := Mws M) B.pre
  have hl := lv_entry av (n := M.2.2.1) hn
  rw [lg_entry_eq]
  refine k p l e s m _ below meth c s.heap [] _ ⟨B.exec, B.bytes, B.returns, hml, findClass_of_methodNamed B.named, fun w hw => hts w (List.mem_cons_of_mem _ hw), B.notSynchronized, hK, hC, hG⟩ ⟨hP, va_S.rf⟩ ?_
  subst hL
  refine ⟨hl.1, hl.2.1, fun q hq => ?_⟩
  obtain ⟨i, v⟩ := q
  obtain ⟨j, h1, h2⟩ := (al_mem _ 0).mp hq
  have h3 := lent_args av _ 0 j v h2
  have e : i = 0 + j := h1
  subst e
  exact hl.2.2 _ h3
end
section
theorem p_iconst {G : GX} {M : MI} {pc : Nat} {L : LL} {st : List Value} {σ σ' : SG} {r : Option Value} {n : Int} (hd : decode M.2.1 pc = .ok (.iconst n, 1)) (k : Rn G M (pc + 1) L (vi n :: st) σ r σ') : Rn G M pc L (st) σ r σ' := by
  intro p l e s m args below meth c H locs ls C X hl
  exact lv_iconst (v := Int32.ofInt n) C.1 C.2.1 hd rfl (k p l e s m args below meth c H locs ls C X hl)
theorem p_bipush {G : GX} {M : MI} {pc : Nat} {L : LL} {st : List Value} {σ σ' : SG} {r : Option Value} {n : Int} (h1 : -128 ≤ n) (h2 : n ≤ 127) (hd : decode M.2.1 pc = .ok (.bipush n, 2)) (k : Rn G M (pc + 2) L (vi n :: st) σ r σ') : Rn G M pc L (st) σ r σ' := by
  intro p l e s m args below meth c H locs ls C X hl
  exact lv_bipush (v := Int32.ofInt n) C.1 C.2.1 hd (Int8.toInt32_ofInt h1 h2) (k p l e s m args below meth c H locs ls C X hl)
theorem p_sipush {G : GX} {M : MI} {pc : Nat} {L : LL} {st : List Value} {σ σ' : SG} {r : Option Value} {n : Int} (h1 : -32768 ≤ n) (h2 : n ≤ 32767) (hd : decode M.2.1 pc = .ok (.sipush n, 3)) (k : Rn G M (pc + 3) L (vi n :: st) σ r σ') : Rn G M pc L (st) σ r σ' := by
  intro p l e s m args below meth c H locs ls C X hl
  exact lv_sipush (v := Int32.ofInt n) C.1 C.2.1 hd (Int16.toInt32_ofInt h1 h2) (k p l e s m args below meth c H locs ls C X hl)
theorem p_lconst0 {G : GX} {M : MI} {pc : Nat} {L : LL} {st : List Value} {σ σ' : SG} {r : Option Value}  (hd : decode M.2.1 pc = .ok (.lconst 0, 1)) (k : Rn G M (pc + 1) L (vl 0 :: st) σ r σ') : Rn G M pc L (st) σ r σ' := by
  intro p l e s m args below meth c H locs ls C X hl
  exact lv_lconst (v := Int64.ofInt 0) C.1 C.2.1 hd (by decide +kernel) (k p l e s m args below meth c H locs ls C X hl)
theorem p_lconst1 {G : GX} {M : MI} {pc : Nat} {L : LL} {st : List Value} {σ σ' : SG} {r : Option Value}  (hd : decode M.2.1 pc = .ok (.lconst 1, 1)) (k : Rn G M (pc + 1) L (vl 1 :: st) σ r σ') : Rn G M pc L (st) σ r σ' := by
  intro p l e s m args below meth c H locs ls C X hl
  exact lv_lconst (v := Int64.ofInt 1) C.1 C.2.1 hd (by decide +kernel) (k p l e s m args below meth c H locs ls C X hl)
theorem p_ldc {G : GX} {M : MI} {pc : Nat} {L : LL} {st : List Value} {σ σ' : SG} {r : Option Value} {ix : Nat} {z : Int} (hw : Cond.constant M.1.cls ix (Int32.ofInt z) ∈ wsL) (hd : decode M.2.1 pc = .ok (.ldc ix, 2)) (k : Rn G M (pc + 2) L (vi z :: st) σ r σ') : Rn G M pc L (st) σ r σ' := by
  intro p l e s m args below meth c H locs ls C X hl
  exact lv_ldc C.1 C.2.1 C.2.2.2.2.1 (C.2.2.2.2.2.1 _ hw) hd (k p l e s m args below meth c H locs ls C X hl)
theorem p_ldcw {G : GX} {M : MI} {pc : Nat} {L : LL} {st : List Value} {σ σ' : SG} {r : Option Value} {ix : Nat} {z : Int} (hw : Cond.constant M.1.cls ix (Int32.ofInt z) ∈ wsL) (hd : decode M.2.1 pc = .ok (.ldc_w ix, 3)) (k : Rn G M (pc + 3) L (vi z :: st) σ r σ') : Rn G M pc L (st) σ r σ' := by
  intro p l e s m args below meth c H locs ls C X hl
  exact lv_ldcw C.1 C.2.1 C.2.2.2.2.1 (C.2.2.2.2.2.1 _ hw) hd (k p l e s m args below meth c H locs ls C X hl)
theorem p_ldc2 {G : GX} {M : MI} {pc : Nat} {L : LL} {st : List Value} {σ σ' : SG} {r : Option Value} {ix : Nat} {z : Int} (hw : Cond.constantLong M.1.cls ix (Int64.ofInt z) ∈ wsL) (hd : decode M.2.1 pc = .ok (.ldc2_w ix, 3)) (k : Rn G M (pc + 3) L (vl z :: st) σ r σ') : Rn G M pc L (st) σ r σ' := by
  intro p l e s m args below meth c H locs ls C X hl
  exact lv_ldc2 C.1 C.2.1 C.2.2.2.2.1 (C.2.2.2.2.2.1 _ hw) hd (k p l e s m args below meth c H locs ls C X hl)
theorem p_ldcS {G : GX} {M : MI} {pc : Nat} {L : LL} {st : List Value} {σ σ' : SG} {r : Option Value} {ix : Nat} (i : Nat) (hi : i < 12) (ho : ownJ i = M.1.cls) (he : entJ i = ix) (hd : decode M.2.1 pc = .ok (.ldc ix, 2)) (k : Rn G M (pc + 2) L (.ref (adK G i) :: st) σ r σ') : Rn G M pc L (st) σ r σ' := by
  intro p l e s m args below meth c H locs ls C X hl
  subst he
  have hr := C.2.2.2.2.2.2.2.2.1.2.2.2.2.2.2.2.2.2 i hi
  rw [ho] at hr
  exact va_ldcS C.1 C.2.1 C.2.2.2.2.1 hr hd (k p l e s m args below meth c H locs ls C X hl)
theorem p_iloadN {G : GX} {M : MI} {pc : Nat} {L : LL} {st : List Value} {σ σ' : SG} {r : Option Value} {q : Fin 4} {i : Nat} {x : Int} (hi : (q : Nat) = i) (hk : L[i]? = some (some (vi x))) (hd : decode M.2.1 pc = .ok (.iload_n q, 1)) (k : Rn G M (pc + 1) L (vi x :: st) σ r σ') : Rn G M pc L (st) σ r σ' := by
  intro p l e s m args below meth c H locs ls C X hl
  exact lv_iload_n C.1 C.2.1 hd hi (hl.at hk) (k p l e s m args below meth c H locs ls C X hl)
theorem p_iloadG {G : GX} {M : MI} {pc : Nat} {L : LL} {st : List Value} {σ σ' : SG} {r : Option Value} {i : Nat} {x : Int} (hk : L[i]? = some (some (vi x))) (hd : decode M.2.1 pc = .ok (.iload i, 2)) (k : Rn G M (pc + 2) L (vi x :: st) σ r σ') : Rn G M pc L (st) σ r σ' := by
  intro p l e s m args below meth c H locs ls C X hl
  exact lv_iload C.1 C.2.1 hd (hl.at hk) (k p l e s m args below meth c H locs ls C X hl)
theorem p_istoreN {G : GX} {M : MI} {pc : Nat} {L : LL} {st : List Value} {σ σ' : SG} {r : Option Value} {L' : LL} {q : Fin 4} {i : Nat} {x : Int} (hi : (q : Nat) = i) (hn : i < M.2.2.1) (hc : pcat L i) (hL : L.set i (some (vi x)) = L') (hd : decode M.2.1 pc = .ok (.istore_n q, 1)) (k : Rn G M (pc + 1) L' st σ r σ') : Rn G M pc L (vi x :: st) σ r σ' := by
  intro p l e s m args below meth c H locs ls C X hl
  subst hL
  exact lv_istore_n C.1 C.2.1 hd hi hl hn rfl (fun ls' h' => k p l e s m args below meth c H locs ls' C X (LH.set1 hc h'))
theorem p_istoreG {G : GX} {M : MI} {pc : Nat} {L : LL} {st : List Value} {σ σ' : SG} {r : Option Value} {L' : LL} {i : Nat} {x : Int} (hn : i < M.2.2.1) (hc : pcat L i) (hL : L.set i (some (vi x)) = L') (hd : decode M.2.1 pc = .ok (.istore i, 2)) (k : Rn G M (pc + 2) L' st σ r σ') : Rn G M pc L (vi x :: st) σ r σ' := by
  intro p l e s m args below meth c H locs ls C X hl
  subst hL
  exact lv_istore C.1 C.2.1 hd hl hn rfl (fun ls' h' => k p l e s m args below meth c H locs ls' C X (LH.set1 hc h'))
theorem p_lloadN {G : GX} {M : MI} {pc : Nat} {L : LL} {st : List Value} {σ σ' : SG} {r : Option Value} {q : Fin 4} {i : Nat} {x : Int} (hi : (q : Nat) = i) (hk : L[i]? = some (some (vl x))) (hd : decode M.2.1 pc = .ok (.lload_n q, 1)) (k : Rn G M (pc + 1) L (vl x :: st) σ r σ') : Rn G M pc L (st) σ r σ' := by
  intro p l e s m args below meth c H locs ls C X hl
  exact lv_lload_n C.1 C.2.1 hd hi (hl.at hk) (k p l e s m args below meth c H locs ls C X hl)
theorem p_lloadG {G : GX} {M : MI} {pc : Nat} {L : LL} {st : List Value} {σ σ' : SG} {r : Option Value} {i : Nat} {x : Int} (hk : L[i]? = some (some (vl x))) (hd : decode M.2.1 pc = .ok (.lload i, 2)) (k : Rn G M (pc + 2) L (vl x :: st) σ r σ') : Rn G M pc L (st) σ r σ' := by
  intro p l e s m args below meth c H locs ls C X hl
  exact lv_lload C.1 C.2.1 hd (hl.at hk) (k p l e s m args below meth c H locs ls C X hl)
theorem p_lstoreN {G : GX} {M : MI} {pc : Nat} {L : LL} {st : List Value} {σ σ' : SG} {r : Option Value} {L' : LL} {q : Fin 4} {i : Nat} {x : Int} (hi : (q : Nat) = i) (hn : i + 1 < M.2.2.1) (hc : pcat L i) (hL : (L.set i (some (vl x))).set (i + 1) none = L') (hd : decode M.2.1 pc = .ok (.lstore_n q, 1)) (k : Rn G M (pc + 1) L' st σ r σ') : Rn G M pc L (vl x :: st) σ r σ' := by
  intro p l e s m args below meth c H locs ls C X hl
  subst hL
  exact lv_lstore_n C.1 C.2.1 hd hi hl hn rfl (fun ls' h' => k p l e s m args below meth c H locs ls' C X (LH.set2 hc h'))
theorem p_lstoreG {G : GX} {M : MI} {pc : Nat} {L : LL} {st : List Value} {σ σ' : SG} {r : Option Value} {L' : LL} {i : Nat} {x : Int} (hn : i + 1 < M.2.2.1) (hc : pcat L i) (hL : (L.set i (some (vl x))).set (i + 1) none = L') (hd : decode M.2.1 pc = .ok (.lstore i, 2)) (k : Rn G M (pc + 2) L' st σ r σ') : Rn G M pc L (vl x :: st) σ r σ' := by
  intro p l e s m args below meth c H locs ls C X hl
  subst hL
  exact lv_lstore C.1 C.2.1 hd hl hn rfl (fun ls' h' => k p l e s m args below meth c H locs ls' C X (LH.set2 hc h'))
theorem p_aloadN {G : GX} {M : MI} {pc : Nat} {L : LL} {st : List Value} {σ σ' : SG} {r : Option Value} {q : Fin 4} {i : Nat} {x : Nat} (hi : (q : Nat) = i) (hk : L[i]? = some (some (.ref x))) (hd : decode M.2.1 pc = .ok (.aload_n q, 1)) (k : Rn G M (pc + 1) L (.ref x :: st) σ r σ') : Rn G M pc L (st) σ r σ' := by
  intro p l e s m args below meth c H locs ls C X hl
  exact lv_aload_n C.1 C.2.1 hd hi (hl.at hk) (k p l e s m args below meth c H locs ls C X hl)
theorem p_aloadG {G : GX} {M : MI} {pc : Nat} {L : LL} {st : List Value} {σ σ' : SG} {r : Option Value} {i : Nat} {x : Nat} (hk : L[i]? = some (some (.ref x))) (hd : decode M.2.1 pc = .ok (.aload i, 2)) (k : Rn G M (pc + 2) L (.ref x :: st) σ r σ') : Rn G M pc L (st) σ r σ' := by
  intro p l e s m args below meth c H locs ls C X hl
  exact lv_aload C.1 C.2.1 hd (hl.at hk) (k p l e s m args below meth c H locs ls C X hl)
theorem p_astoreN {G : GX} {M : MI} {pc : Nat} {L : LL} {st : List Value} {σ σ' : SG} {r : Option Value} {L' : LL} {q : Fin 4} {i : Nat} {x : Nat} (hi : (q : Nat) = i) (hn : i < M.2.2.1) (hc : pcat L i) (hL : L.set i (some (.ref x)) = L') (hd : decode M.2.1 pc = .ok (.astore_n q, 1)) (k : Rn G M (pc + 1) L' st σ r σ') : Rn G M pc L (.ref x :: st) σ r σ' := by
  intro p l e s m args below meth c H locs ls C X hl
  subst hL
  exact lv_astore_n C.1 C.2.1 hd hi hl hn rfl (fun ls' h' => k p l e s m args below meth c H locs ls' C X (LH.set1 hc h'))
theorem p_astoreG {G : GX} {M : MI} {pc : Nat} {L : LL} {st : List Value} {σ σ' : SG} {r : Option Value} {L' : LL} {i : Nat} {x : Nat} (hn : i < M.2.2.1) (hc : pcat L i) (hL : L.set i (some (.ref x)) = L') (hd : decode M.2.1 pc = .ok (.astore i, 2)) (k : Rn G M (pc + 2) L' st σ r σ') : Rn G M pc L (.ref x :: st) σ r σ' := by
  intro p l e s m args below meth c H locs ls C X hl
  subst hL
  exact lv_astore C.1 C.2.1 hd hl hn rfl (fun ls' h' => k p l e s m args below meth c H locs ls' C X (LH.set1 hc h'))
theorem p_iincG {G : GX} {M : MI} {pc : Nat} {L : LL} {st : List Value} {σ σ' : SG} {r : Option Value} {L' : LL} {i : Nat} {x n : Int} (hk : L[i]? = some (some (vi x))) (hn : i < M.2.2.1) (hc : pcat L i) (hL : L.set i (some (vi (x + n))) = L') (hd : decode M.2.1 pc = .ok (.iinc i n, 3)) (k : Rn G M (pc + 3) L' st σ r σ') : Rn G M pc L st σ r σ' := by
  intro p l e s m args below meth c H locs ls C X hl
  subst hL
  have hm : (i, vi x) ∈ al 0 L := (al_mem L 0).mpr ⟨i, by omega, hk⟩
  obtain ⟨q, hq⟩ := List.getElem?_of_mem hm
  exact lv_iinc (v := Int32.ofInt (x + n)) C.1 C.2.1 hd hl hq (Int32.ofInt_add x n).symm hn rfl (fun ls' h' => k p l e s m args below meth c H locs ls' C X (LH.set1 hc h'))
theorem pcat0 {L : LL} : pcat L 0 := fun j w h => by omega
theorem pcat1 {a0 : Option Value} {t : LL} (h : ocat a0 = true) : pcat (a0 :: t) 1 := fun j w e hj => by
  have : j = 0 := by omega
  subst this
  simp at hj
  subst hj
  simpa [ocat] using h
theorem pcat2 {a0 a1 : Option Value} {t : LL} (h : ocat a1 = true) : pcat (a0 :: a1 :: t) 2 := fun j w e hj => by
  have : j = 1 := by omega
  subst this
  simp at hj
  subst hj
  simpa [ocat] using h
theorem pcat3 {a0 a1 a2 : Option Value} {t : LL} (h : ocat a2 = true) : pcat (a0 :: a1 :: a2 :: t) 3 := fun j w e hj => by
  have : j = 2 := by omega
  subst this
  simp at hj
  subst hj
  simpa [ocat] using h
theorem pcat4 {a0 a1 a2 a3 : Option Value} {t : LL} (h : ocat a3 = true) : pcat (a0 :: a1 :: a2 :: a3 :: t) 4 := fun j w e hj => by
  have : j = 3 := by omega
  subst this
  simp at hj
  subst hj
  simpa [ocat] using h
theorem pcat5 {a0 a1 a2 a3 a4 : Option Value} {t : LL} (h : ocat a4 = true) : pcat (a0 :: a1 :: a2 :: a3 :: a4 :: t) 5 := fun j w e hj => by
  have : j = 4 := by omega
  subst this
  simp at hj
  subst hj
  simpa [ocat] using h
theorem pcat6 {a0 a1 a2 a3 a4 a5 : Option Value} {t : LL} (h : ocat a5 = true) : pcat (a0 :: a1 :: a2 :: a3 :: a4 :: a5 :: t) 6 := fun j w e hj => by
  have : j = 5 := by omega
  subst this
  simp at hj
  subst hj
  simpa [ocat] using h
theorem pcat7 {a0 a1 a2 a3 a4 a5 a6 : Option Value} {t : LL} (h : ocat a6 = true) : pcat (a0 :: a1 :: a2 :: a3 :: a4 :: a5 :: a6 :: t) 7 := fun j w e hj => by
  have : j = 6 := by omega
  subst this
  simp at hj
  subst hj
  simpa [ocat] using h
theorem pcat8 {a0 a1 a2 a3 a4 a5 a6 a7 : Option Value} {t : LL} (h : ocat a7 = true) : pcat (a0 :: a1 :: a2 :: a3 :: a4 :: a5 :: a6 :: a7 :: t) 8 := fun j w e hj => by
  have : j = 7 := by omega
  subst this
  simp at hj
  subst hj
  simpa [ocat] using h
theorem pcat9 {a0 a1 a2 a3 a4 a5 a6 a7 a8 : Option Value} {t : LL} (h : ocat a8 = true) : pcat (a0 :: a1 :: a2 :: a3 :: a4 :: a5 :: a6 :: a7 :: a8 :: t) 9 := fun j w e hj => by
  have : j = 8 := by omega
  subst this
  simp at hj
  subst hj
  simpa [ocat] using h
theorem pcat10 {a0 a1 a2 a3 a4 a5 a6 a7 a8 a9 : Option Value} {t : LL} (h : ocat a9 = true) : pcat (a0 :: a1 :: a2 :: a3 :: a4 :: a5 :: a6 :: a7 :: a8 :: a9 :: t) 10 := fun j w e hj => by
  have : j = 9 := by omega
  subst this
  simp at hj
  subst hj
  simpa [ocat] using h
theorem pcat11 {a0 a1 a2 a3 a4 a5 a6 a7 a8 a9 a10 : Option Value} {t : LL} (h : ocat a10 = true) : pcat (a0 :: a1 :: a2 :: a3 :: a4 :: a5 :: a6 :: a7 :: a8 :: a9 :: a10 :: t) 11 := fun j w e hj => by
  have : j = 10 := by omega
  subst this
  simp at hj
  subst hj
  simpa [ocat] using h
theorem pcat12 {a0 a1 a2 a3 a4 a5 a6 a7 a8 a9 a10 a11 : Option Value} {t : LL} (h : ocat a11 = true) : pcat (a0 :: a1 :: a2 :: a3 :: a4 :: a5 :: a6 :: a7 :: a8 :: a9 :: a10 :: a11 :: t) 12 := fun j w e hj => by
  have : j = 11 := by omega
  subst this
  simp at hj
  subst hj
  simpa [ocat] using h
theorem pcat13 {a0 a1 a2 a3 a4 a5 a6 a7 a8 a9 a10 a11 a12 : Option Value} {t : LL} (h : ocat a12 = true) : pcat (a0 :: a1 :: a2 :: a3 :: a4 :: a5 :: a6 :: a7 :: a8 :: a9 :: a10 :: a11 :: a12 :: t) 13 := fun j w e hj => by
  have : j = 12 := by omega
  subst this
  simp at hj
  subst hj
  simpa [ocat] using h
theorem p_iload0 {G : GX} {M : MI} {pc : Nat} {t : LL} {st : List Value} {σ σ' : SG} {r : Option Value} {x : Int} (hd : decode M.2.1 pc = .ok (.iload_n 0, 1)) (k : Rn G M (pc + 1) (some (vi x) :: t) (vi x :: st) σ r σ') : Rn G M pc (some (vi x) :: t) st σ r σ' := p_iloadN rfl rfl hd k
theorem p_istore0 {G : GX} {M : MI} {pc : Nat} {t : LL} {st : List Value} {σ σ' : SG} {r : Option Value} {b0 : Option Value} {x : Int} (hn : 0 < M.2.2.1) (hd : decode M.2.1 pc = .ok (.istore_n 0, 1)) (k : Rn G M (pc + 1) (some (vi x) :: t) st σ r σ') : Rn G M pc (b0 :: t) (vi x :: st) σ r σ' := p_istoreN rfl hn pcat0 rfl hd k
theorem p_lload0 {G : GX} {M : MI} {pc : Nat} {t : LL} {st : List Value} {σ σ' : SG} {r : Option Value} {x : Int} (hd : decode M.2.1 pc = .ok (.lload_n 0, 1)) (k : Rn G M (pc + 1) (some (vl x) :: t) (vl x :: st) σ r σ') : Rn G M pc (some (vl x) :: t) st σ r σ' := p_lloadN rfl rfl hd k
theorem p_lstore0 {G : GX} {M : MI} {pc : Nat} {t : LL} {st : List Value} {σ σ' : SG} {r : Option Value} {b0 b1 : Option Value} {x : Int} (hn : 0 + 1 < M.2.2.1) (hd : decode M.2.1 pc = .ok (.lstore_n 0, 1)) (k : Rn G M (pc + 1) (some (vl x) :: none :: t) st σ r σ') : Rn G M pc (b0 :: b1 :: t) (vl x :: st) σ r σ' := p_lstoreN rfl hn pcat0 rfl hd k
theorem p_aload0 {G : GX} {M : MI} {pc : Nat} {t : LL} {st : List Value} {σ σ' : SG} {r : Option Value} {x : Nat} (hd : decode M.2.1 pc = .ok (.aload_n 0, 1)) (k : Rn G M (pc + 1) (some (.ref x) :: t) (.ref x :: st) σ r σ') : Rn G M pc (some (.ref x) :: t) st σ r σ' := p_aloadN rfl rfl hd k
theorem p_astore0 {G : GX} {M : MI} {pc : Nat} {t : LL} {st : List Value} {σ σ' : SG} {r : Option Value} {b0 : Option Value} {x : Nat} (hn : 0 < M.2.2.1) (hd : decode M.2.1 pc = .ok (.astore_n 0, 1)) (k : Rn G M (pc + 1) (some (.ref x) :: t) st σ r σ') : Rn G M pc (b0 :: t) (.ref x :: st) σ r σ' := p_astoreN rfl hn pcat0 rfl hd k
theorem p_iinc0 {G : GX} {M : MI} {pc : Nat} {t : LL} {st : List Value} {σ σ' : SG} {r : Option Value} {x n : Int} (hn : 0 < M.2.2.1) (hd : decode M.2.1 pc = .ok (.iinc 0 n, 3)) (k : Rn G M (pc + 3) (some (vi (x + n)) :: t) st σ r σ') : Rn G M pc (some (vi x) :: t) st σ r σ' := p_iincG rfl hn pcat0 rfl hd k
theorem p_iload1 {G : GX} {M : MI} {pc : Nat} {t : LL} {st : List Value} {σ σ' : SG} {r : Option Value} {a0 : Option Value} {x : Int} (hd : decode M.2.1 pc = .ok (.iload_n 1, 1)) (k : Rn G M (pc + 1) (a0 :: some (vi x) :: t) (vi x :: st) σ r σ') : Rn G M pc (a0 :: some (vi x) :: t) st σ r σ' := p_iloadN rfl rfl hd k
theorem p_istore1 {G : GX} {M : MI} {pc : Nat} {t : LL} {st : List Value} {σ σ' : SG} {r : Option Value} {a0 : Option Value} {b0 : Option Value} {x : Int} (hc : ocat a0 = true) (hn : 1 < M.2.2.1) (hd : decode M.2.1 pc = .ok (.istore_n 1, 1)) (k : Rn G M (pc + 1) (a0 :: some (vi x) :: t) st σ r σ') : Rn G M pc (a0 :: b0 :: t) (vi x :: st) σ r σ' := p_istoreN rfl hn (pcat1 hc) rfl hd k
theorem p_lload1 {G : GX} {M : MI} {pc : Nat} {t : LL} {st : List Value} {σ σ' : SG} {r : Option Value} {a0 : Option Value} {x : Int} (hd : decode M.2.1 pc = .ok (.lload_n 1, 1)) (k : Rn G M (pc + 1) (a0 :: some (vl x) :: t) (vl x :: st) σ r σ') : Rn G M pc (a0 :: some (vl x) :: t) st σ r σ' := p_lloadN rfl rfl hd k
theorem p_lstore1 {G : GX} {M : MI} {pc : Nat} {t : LL} {st : List Value} {σ σ' : SG} {r : Option Value} {a0 : Option Value} {b0 b1 : Option Value} {x : Int} (hc : ocat a0 = true) (hn : 1 + 1 < M.2.2.1) (hd : decode M.2.1 pc = .ok (.lstore_n 1, 1)) (k : Rn G M (pc + 1) (a0 :: some (vl x) :: none :: t) st σ r σ') : Rn G M pc (a0 :: b0 :: b1 :: t) (vl x :: st) σ r σ' := p_lstoreN rfl hn (pcat1 hc) rfl hd k
theorem p_aload1 {G : GX} {M : MI} {pc : Nat} {t : LL} {st : List Value} {σ σ' : SG} {r : Option Value} {a0 : Option Value} {x : Nat} (hd : decode M.2.1 pc = .ok (.aload_n 1, 1)) (k : Rn G M (pc + 1) (a0 :: some (.ref x) :: t) (.ref x :: st) σ r σ') : Rn G M pc (a0 :: some (.ref x) :: t) st σ r σ' := p_aloadN rfl rfl hd k
theorem p_astore1 {G : GX} {M : MI} {pc : Nat} {t : LL} {st : List Value} {σ σ' : SG} {r : Option Value} {a0 : Option Value} {b0 : Option Value} {x : Nat} (hc : ocat a0 = true) (hn : 1 < M.2.2.1) (hd : decode M.2.1 pc = .ok (.astore_n 1, 1)) (k : Rn G M (pc + 1) (a0 :: some (.ref x) :: t) st σ r σ') : Rn G M pc (a0 :: b0 :: t) (.ref x :: st) σ r σ' := p_astoreN rfl hn (pcat1 hc) rfl hd k
theorem p_iinc1 {G : GX} {M : MI} {pc : Nat} {t : LL} {st : List Value} {σ σ' : SG} {r : Option Value} {a0 : Option Value} {x n : Int} (hc : ocat a0 = true) (hn : 1 < M.2.2.1) (hd : decode M.2.1 pc = .ok (.iinc 1 n, 3)) (k : Rn G M (pc + 3) (a0 :: some (vi (x + n)) :: t) st σ r σ') : Rn G M pc (a0 :: some (vi x) :: t) st σ r σ' := p_iincG rfl hn (pcat1 hc) rfl hd k
theorem p_iload2 {G : GX} {M : MI} {pc : Nat} {t : LL} {st : List Value} {σ σ' : SG} {r : Option Value} {a0 a1 : Option Value} {x : Int} (hd : decode M.2.1 pc = .ok (.iload_n 2, 1)) (k : Rn G M (pc + 1) (a0 :: a1 :: some (vi x) :: t) (vi x :: st) σ r σ') : Rn G M pc (a0 :: a1 :: some (vi x) :: t) st σ r σ' := p_iloadN rfl rfl hd k
theorem p_istore2 {G : GX} {M : MI} {pc : Nat} {t : LL} {st : List Value} {σ σ' : SG} {r : Option Value} {a0 a1 : Option Value} {b0 : Option Value} {x : Int} (hc : ocat a1 = true) (hn : 2 < M.2.2.1) (hd : decode M.2.1 pc = .ok (.istore_n 2, 1)) (k : Rn G M (pc + 1) (a0 :: a1 :: some (vi x) :: t) st σ r σ') : Rn G M pc (a0 :: a1 :: b0 :: t) (vi x :: st) σ r σ' := p_istoreN rfl hn (pcat2 hc) rfl hd k
theorem p_lload2 {G : GX} {M : MI} {pc : Nat} {t : LL} {st : List Value} {σ σ' : SG} {r : Option Value} {a0 a1 : Option Value} {x : Int} (hd : decode M.2.1 pc = .ok (.lload_n 2, 1)) (k : Rn G M (pc + 1) (a0 :: a1 :: some (vl x) :: t) (vl x :: st) σ r σ') : Rn G M pc (a0 :: a1 :: some (vl x) :: t) st σ r σ' := p_lloadN rfl rfl hd k
theorem p_lstore2 {G : GX} {M : MI} {pc : Nat} {t : LL} {st : List Value} {σ σ' : SG} {r : Option Value} {a0 a1 : Option Value} {b0 b1 : Option Value} {x : Int} (hc : ocat a1 = true) (hn : 2 + 1 < M.2.2.1) (hd : decode M.2.1 pc = .ok (.lstore_n 2, 1)) (k : Rn G M (pc + 1) (a0 :: a1 :: some (vl x) :: none :: t) st σ r σ') : Rn G M pc (a0 :: a1 :: b0 :: b1 :: t) (vl x :: st) σ r σ' := p_lstoreN rfl hn (pcat2 hc) rfl hd k
theorem p_aload2 {G : GX} {M : MI} {pc : Nat} {t : LL} {st : List Value} {σ σ' : SG} {r : Option Value} {a0 a1 : Option Value} {x : Nat} (hd : decode M.2.1 pc = .ok (.aload_n 2, 1)) (k : Rn G M (pc + 1) (a0 :: a1 :: some (.ref x) :: t) (.ref x :: st) σ r σ') : Rn G M pc (a0 :: a1 :: some (.ref x) :: t) st σ r σ' := p_aloadN rfl rfl hd k
theorem p_astore2 {G : GX} {M : MI} {pc : Nat} {t : LL} {st : List Value} {σ σ' : SG} {r : Option Value} {a0 a1 : Option Value} {b0 : Option Value} {x : Nat} (hc : ocat a1 = true) (hn : 2 < M.2.2.1) (hd : decode M.2.1 pc = .ok (.astore_n 2, 1)) (k : Rn G M (pc + 1) (a0 :: a1 :: some (.ref x) :: t) st σ r σ') : Rn G M pc (a0 :: a1 :: b0 :: t) (.ref x :: st) σ r σ' := p_astoreN rfl hn (pcat2 hc) rfl hd k
theorem p_iinc2 {G : GX} {M : MI} {pc : Nat} {t : LL} {st : List Value} {σ σ' : SG} {r : Option Value} {a0 a1 : Option Value} {x n : Int} (hc : ocat a1 = true) (hn : 2 < M.2.2.1) (hd : decode M.2.1 pc = .ok (.iinc 2 n, 3)) (k : Rn G M (pc + 3) (a0 :: a1 :: some (vi (x + n)) :: t) st σ r σ') : Rn G M pc (a0 :: a1 :: some (vi x) :: t) st σ r σ' := p_iincG rfl hn (pcat2 hc) rfl hd k
theorem p_iload3 {G : GX} {M : MI} {pc : Nat} {t : LL} {st : List Value} {σ σ' : SG} {r : Option Value} {a0 a1 a2 : Option Value} {x : Int} (hd : decode M.2.1 pc = .ok (.iload_n 3, 1)) (k : Rn G M (pc + 1) (a0 :: a1 :: a2 :: some (vi x) :: t) (vi x :: st) σ r σ') : Rn G M pc (a0 :: a1 :: a2 :: some (vi x) :: t) st σ r σ' := p_iloadN rfl rfl hd k
theorem p_istore3 {G : GX} {M : MI} {pc : Nat} {t : LL} {st : List Value} {σ σ' : SG} {r : Option Value} {a0 a1 a2 : Option Value} {b0 : Option Value} {x : Int} (hc : ocat a2 = true) (hn : 3 < M.2.2.1) (hd : decode M.2.1 pc = .ok (.istore_n 3, 1)) (k : Rn G M (pc + 1) (a0 :: a1 :: a2 :: some (vi x) :: t) st σ r σ') : Rn G M pc (a0 :: a1 :: a2 :: b0 :: t) (vi x :: st) σ r σ' := p_istoreN rfl hn (pcat3 hc) rfl hd k
theorem p_lload3 {G : GX} {M : MI} {pc : Nat} {t : LL} {st : List Value} {σ σ' : SG} {r : Option Value} {a0 a1 a2 : Option Value} {x : Int} (hd : decode M.2.1 pc = .ok (.lload_n 3, 1)) (k : Rn G M (pc + 1) (a0 :: a1 :: a2 :: some (vl x) :: t) (vl x :: st) σ r σ') : Rn G M pc (a0 :: a1 :: a2 :: some (vl x) :: t) st σ r σ' := p_lloadN rfl rfl hd k
theorem p_lstore3 {G : GX} {M : MI} {pc : Nat} {t : LL} {st : List Value} {σ σ' : SG} {r : Option Value} {a0 a1 a2 : Option Value} {b0 b1 : Option Value} {x : Int} (hc : ocat a2 = true) (hn : 3 + 1 < M.2.2.1) (hd : decode M.2.1 pc = .ok (.lstore_n 3, 1)) (k : Rn G M (pc + 1) (a0 :: a1 :: a2 :: some (vl x) :: none :: t) st σ r σ') : Rn G M pc (a0 :: a1 :: a2 :: b0 :: b1 :: t) (vl x :: st) σ r σ' := p_lstoreN rfl hn (pcat3 hc) rfl hd k
theorem p_aload3 {G : GX} {M : MI} {pc : Nat} {t : LL} {st : List Value} {σ σ' : SG} {r : Option Value} {a0 a1 a2 : Option Value} {x : Nat} (hd : decode M.2.1 pc = .ok (.aload_n 3, 1)) (k : Rn G M (pc + 1) (a0 :: a1 :: a2 :: some (.ref x) :: t) (.ref x :: st) σ r σ') : Rn G M pc (a0 :: a1 :: a2 :: some (.ref x) :: t) st σ r σ' := p_aloadN rfl rfl hd k
theorem p_astore3 {G : GX} {M : MI} {pc : Nat} {t : LL} {st : List Value} {σ σ' : SG} {r : Option Value} {a0 a1 a2 : Option Value} {b0 : Option Value} {x : Nat} (hc : ocat a2 = true) (hn : 3 < M.2.2.1) (hd : decode M.2.1 pc = .ok (.astore_n 3, 1)) (k : Rn G M (pc + 1) (a0 :: a1 :: a2 :: some (.ref x) :: t) st σ r σ') : Rn G M pc (a0 :: a1 :: a2 :: b0 :: t) (.ref x :: st) σ r σ' := p_astoreN rfl hn (pcat3 hc) rfl hd k
theorem p_iinc3 {G : GX} {M : MI} {pc : Nat} {t : LL} {st : List Value} {σ σ' : SG} {r : Option Value} {a0 a1 a2 : Option Value} {x n : Int} (hc : ocat a2 = true) (hn : 3 < M.2.2.1) (hd : decode M.2.1 pc = .ok (.iinc 3 n, 3)) (k : Rn G M (pc + 3) (a0 :: a1 :: a2 :: some (vi (x + n)) :: t) st σ r σ') : Rn G M pc (a0 :: a1 :: a2 :: some (vi x) :: t) st σ r σ' := p_iincG rfl hn (pcat3 hc) rfl hd k
theorem p_iload4 {G : GX} {M : MI} {pc : Nat} {t : LL} {st : List Value} {σ σ' : SG} {r : Option Value} {a0 a1 a2 a3 : Option Value} {x : Int} (hd : decode M.2.1 pc = .ok (.iload 4, 2)) (k : Rn G M (pc + 2) (a0 :: a1 :: a2 :: a3 :: some (vi x) :: t) (vi x :: st) σ r σ') : Rn G M pc (a0 :: a1 :: a2 :: a3 :: some (vi x) :: t) st σ r σ' := p_iloadG rfl hd k
theorem p_istore4 {G : GX} {M : MI} {pc : Nat} {t : LL} {st : List Value} {σ σ' : SG} {r : Option Value} {a0 a1 a2 a3 : Option Value} {b0 : Option Value} {x : Int} (hc : ocat a3 = true) (hn : 4 < M.2.2.1) (hd : decode M.2.1 pc = .ok (.istore 4, 2)) (k : Rn G M (pc + 2) (a0 :: a1 :: a2 :: a3 :: some (vi x) :: t) st σ r σ') : Rn G M pc (a0 :: a1 :: a2 :: a3 :: b0 :: t) (vi x :: st) σ r σ' := p_istoreG hn (pcat4 hc) rfl hd k
theorem p_lload4 {G : GX} {M : MI} {pc : Nat} {t : LL} {st : List Value} {σ σ' : SG} {r : Option Value} {a0 a1 a2 a3 : Option Value} {x : Int} (hd : decode M.2.1 pc = .ok (.lload 4, 2)) (k : Rn G M (pc + 2) (a0 :: a1 :: a2 :: a3 :: some (vl x) :: t) (vl x :: st) σ r σ') : Rn G M pc (a0 :: a1 :: a2 :: a3 :: some (vl x) :: t) st σ r σ' := p_lloadG rfl hd k
theorem p_lstore4 {G : GX} {M : MI} {pc : Nat} {t : LL} {st : List Value} {σ σ' : SG} {r : Option Value} {a0 a1 a2 a3 : Option Value} {b0 b1 : Option Value} {x : Int} (hc : ocat a3 = true) (hn : 4 + 1 < M.2.2.1) (hd : decode M.2.1 pc = .ok (.lstore 4, 2)) (k : Rn G M (pc + 2) (a0 :: a1 :: a2 :: a3 :: some (vl x) :: none :: t) st σ r σ') : Rn G M pc (a0 :: a1 :: a2 :: a3 :: b0 :: b1 :: t) (vl x :: st) σ r σ' := p_lstoreG hn (pcat4 hc) rfl hd k
theorem p_aload4 {G : GX} {M : MI} {pc : Nat} {t : LL} {st : List Value} {σ σ' : SG} {r : Option Value} {a0 a1 a2 a3 : Option Value} {x : Nat} (hd : decode M.2.1 pc = .ok (.aload 4, 2)) (k : Rn G M (pc + 2) (a0 :: a1 :: a2 :: a3 :: some (.ref x) :: t) (.ref x :: st) σ r σ') : Rn G M pc (a0 :: a1 :: a2 :: a3 :: some (.ref x) :: t) st σ r σ' := p_aloadG rfl hd k
theorem p_astore4 {G : GX} {M : MI} {pc : Nat} {t : LL} {st : List Value} {σ σ' : SG} {r : Option Value} {a0 a1 a2 a3 : Option Value} {b0 : Option Value} {x : Nat} (hc : ocat a3 = true) (hn : 4 < M.2.2.1) (hd : decode M.2.1 pc = .ok (.astore 4, 2)) (k : Rn G M (pc + 2) (a0 :: a1 :: a2 :: a3 :: some (.ref x) :: t) st σ r σ') : Rn G M pc (a0 :: a1 :: a2 :: a3 :: b0 :: t) (.ref x :: st) σ r σ' := p_astoreG hn (pcat4 hc) rfl hd k
theorem p_iinc4 {G : GX} {M : MI} {pc : Nat} {t : LL} {st : List Value} {σ σ' : SG} {r : Option Value} {a0 a1 a2 a3 : Option Value} {x n : Int} (hc : ocat a3 = true) (hn : 4 < M.2.2.1) (hd : decode M.2.1 pc = .ok (.iinc 4 n, 3)) (k : Rn G M (pc + 3) (a0 :: a1 :: a2 :: a3 :: some (vi (x + n)) :: t) st σ r σ') : Rn G M pc (a0 :: a1 :: a2 :: a3 :: some (vi x) :: t) st σ r σ' := p_iincG rfl hn (pcat4 hc) rfl hd k
theorem p_iload5 {G : GX} {M : MI} {pc : Nat} {t : LL} {st : List Value} {σ σ' : SG} {r : Option Value} {a0 a1 a2 a3 a4 : Option Value} {x : Int} (hd : decode M.2.1 pc = .ok (.iload 5, 2)) (k : Rn G M (pc + 2) (a0 :: a1 :: a2 :: a3 :: a4 :: some (vi x) :: t) (vi x :: st) σ r σ') : Rn G M pc (a0 :: a1 :: a2 :: a3 :: a4 :: some (vi x) :: t) st σ r σ' := p_iloadG rfl hd k
theorem p_istore5 {G : GX} {M : MI} {pc : Nat} {t : LL} {st : List Value} {σ σ' : SG} {r : Option Value} {a0 a1 a2 a3 a4 : Option Value} {b0 : Option Value} {x : Int} (hc : ocat a4 = true) (hn : 5 < M.2.2.1) (hd : decode M.2.1 pc = .ok (.istore 5, 2)) (k : Rn G M (pc + 2) (a0 :: a1 :: a2 :: a3 :: a4 :: some (vi x) :: t) st σ r σ') : Rn G M pc (a0 :: a1 :: a2 :: a3 :: a4 :: b0 :: t) (vi x :: st) σ r σ' := p_istoreG hn (pcat5 hc) rfl hd k
theorem p_lload5 {G : GX} {M : MI} {pc : Nat} {t : LL} {st : List Value} {σ σ' : SG} {r : Option Value} {a0 a1 a2 a3 a4 : Option Value} {x : Int} (hd : decode M.2.1 pc = .ok (.lload 5, 2)) (k : Rn G M (pc + 2) (a0 :: a1 :: a2 :: a3 :: a4 :: some (vl x) :: t) (vl x :: st) σ r σ') : Rn G M pc (a0 :: a1 :: a2 :: a3 :: a4 :: some (vl x) :: t) st σ r σ' := p_lloadG rfl hd k
theorem p_lstore5 {G : GX} {M : MI} {pc : Nat} {t : LL} {st : List Value} {σ σ' : SG} {r : Option Value} {a0 a1 a2 a3 a4 : Option Value} {b0 b1 : Option Value} {x : Int} (hc : ocat a4 = true) (hn : 5 + 1 < M.2.2.1) (hd : decode M.2.1 pc = .ok (.lstore 5, 2)) (k : Rn G M (pc + 2) (a0 :: a1 :: a2 :: a3 :: a4 :: some (vl x) :: none :: t) st σ r σ') : Rn G M pc (a0 :: a1 :: a2 :: a3 :: a4 :: b0 :: b1 :: t) (vl x :: st) σ r σ' := p_lstoreG hn (pcat5 hc) rfl hd k
theorem p_aload5 {G : GX} {M : MI} {pc : Nat} {t : LL} {st : List Value} {σ σ' : SG} {r : Option Value} {a0 a1 a2 a3 a4 : Option Value} {x : Nat} (hd : decode M.2.1 pc = .ok (.aload 5, 2)) (k : Rn G M (pc + 2) (a0 :: a1 :: a2 :: a3 :: a4 :: some (.ref x) :: t) (.ref x :: st) σ r σ') : Rn G M pc (a0 :: a1 :: a2 :: a3 :: a4 :: some (.ref x) :: t) st σ r σ' := p_aloadG rfl hd k
theorem p_astore5 {G : GX} {M : MI} {pc : Nat} {t : LL} {st : List Value} {σ σ' : SG} {r : Option Value} {a0 a1 a2 a3 a4 : Option Value} {b0 : Option Value} {x : Nat} (hc : ocat a4 = true) (hn : 5 < M.2.2.1) (hd : decode M.2.1 pc = .ok (.astore 5, 2)) (k : Rn G M (pc + 2) (a0 :: a1 :: a2 :: a3 :: a4 :: some (.ref x) :: t) st σ r σ') : Rn G M pc (a0 :: a1 :: a2 :: a3 :: a4 :: b0 :: t) (.ref x :: st) σ r σ' := p_astoreG hn (pcat5 hc) rfl hd k
theorem p_iinc5 {G : GX} {M : MI} {pc : Nat} {t : LL} {st : List Value} {σ σ' : SG} {r : Option Value} {a0 a1 a2 a3 a4 : Option Value} {x n : Int} (hc : ocat a4 = true) (hn : 5 < M.2.2.1) (hd : decode M.2.1 pc = .ok (.iinc 5 n, 3)) (k : Rn G M (pc + 3) (a0 :: a1 :: a2 :: a3 :: a4 :: some (vi (x + n)) :: t) st σ r σ') : Rn G M pc (a0 :: a1 :: a2 :: a3 :: a4 :: some (vi x) :: t) st σ r σ' := p_iincG rfl hn (pcat5 hc) rfl hd k
theorem p_iload6 {G : GX} {M : MI} {pc : Nat} {t : LL} {st : List Value} {σ σ' : SG} {r : Option Value} {a0 a1 a2 a3 a4 a5 : Option Value} {x : Int} (hd : decode M.2.1 pc = .ok (.iload 6, 2)) (k : Rn G M (pc + 2) (a0 :: a1 :: a2 :: a3 :: a4 :: a5 :: some (vi x) :: t) (vi x :: st) σ r σ') : Rn G M pc (a0 :: a1 :: a2 :: a3 :: a4 :: a5 :: some (vi x) :: t) st σ r σ' := p_iloadG rfl hd k
theorem p_istore6 {G : GX} {M : MI} {pc : Nat} {t : LL} {st : List Value} {σ σ' : SG} {r : Option Value} {a0 a1 a2 a3 a4 a5 : Option Value} {b0 : Option Value} {x : Int} (hc : ocat a5 = true) (hn : 6 < M.2.2.1) (hd : decode M.2.1 pc = .ok (.istore 6, 2)) (k : Rn G M (pc + 2) (a0 :: a1 :: a2 :: a3 :: a4 :: a5 :: some (vi x) :: t) st σ r σ') : Rn G M pc (a0 :: a1 :: a2 :: a3 :: a4 :: a5 :: b0 :: t) (vi x :: st) σ r σ' := p_istoreG hn (pcat6 hc) rfl hd k
theorem p_lload6 {G : GX} {M : MI} {pc : Nat} {t : LL} {st : List Value} {σ σ' : SG} {r : Option Value} {a0 a1 a2 a3 a4 a5 : Option Value} {x : Int} (hd : decode M.2.1 pc = .ok (.lload 6, 2)) (k : Rn G M (pc + 2) (a0 :: a1 :: a2 :: a3 :: a4 :: a5 :: some (vl x) :: t) (vl x :: st) σ r σ') : Rn G M pc (a0 :: a1 :: a2 :: a3 :: a4 :: a5 :: some (vl x) :: t) st σ r σ' := p_lloadG rfl hd k
theorem p_lstore6 {G : GX} {M : MI} {pc : Nat} {t : LL} {st : List Value} {σ σ' : SG} {r : Option Value} {a0 a1 a2 a3 a4 a5 : Option Value} {b0 b1 : Option Value} {x : Int} (hc : ocat a5 = true) (hn : 6 + 1 < M.2.2.1) (hd : decode M.2.1 pc = .ok (.lstore 6, 2)) (k : Rn G M (pc + 2) (a0 :: a1 :: a2 :: a3 :: a4 :: a5 :: some (vl x) :: none :: t) st σ r σ') : Rn G M pc (a0 :: a1 :: a2 :: a3 :: a4 :: a5 :: b0 :: b1 :: t) (vl x :: st) σ r σ' := p_lstoreG hn (pcat6 hc) rfl hd k
theorem p_aload6 {G : GX} {M : MI} {pc : Nat} {t : LL} {st : List Value} {σ σ' : SG} {r : Option Value} {a0 a1 a2 a3 a4 a5 : Option Value} {x : Nat} (hd : decode M.2.1 pc = .ok (.aload 6, 2)) (k : Rn G M (pc + 2) (a0 :: a1 :: a2 :: a3 :: a4 :: a5 :: some (.ref x) :: t) (.ref x :: st) σ r σ') : Rn G M pc (a0 :: a1 :: a2 :: a3 :: a4 :: a5 :: some (.ref x) :: t) st σ r σ' := p_aloadG rfl hd k
theorem p_astore6 {G : GX} {M : MI} {pc : Nat} {t : LL} {st : List Value} {σ σ' : SG} {r : Option Value} {a0 a1 a2 a3 a4 a5 : Option Value} {b0 : Option Value} {x : Nat} (hc : ocat a5 = true) (hn : 6 < M.2.2.1) (hd : decode M.2.1 pc = .ok (.astore 6, 2)) (k : Rn G M (pc + 2) (a0 :: a1 :: a2 :: a3 :: a4 :: a5 :: some (.ref x) :: t) st σ r σ') : Rn G M pc (a0 :: a1 :: a2 :: a3 :: a4 :: a5 :: b0 :: t) (.ref x :: st) σ r σ' := p_astoreG hn (pcat6 hc) rfl hd k
theorem p_iinc6 {G : GX} {M : MI} {pc : Nat} {t : LL} {st : List Value} {σ σ' : SG} {r : Option Value} {a0 a1 a2 a3 a4 a5 : Option Value} {x n : Int} (hc : ocat a5 = true) (hn : 6 < M.2.2.1) (hd : decode M.2.1 pc = .ok (.iinc 6 n, 3)) (k : Rn G M (pc + 3) (a0 :: a1 :: a2 :: a3 :: a4 :: a5 :: some (vi (x + n)) :: t) st σ r σ') : Rn G M pc (a0 :: a1 :: a2 :: a3 :: a4 :: a5 :: some (vi x) :: t) st σ r σ' := p_iincG rfl hn (pcat6 hc) rfl hd k
theorem p_iload7 {G : GX} {M : MI} {pc : Nat} {t : LL} {st : List Value} {σ σ' : SG} {r : Option Value} {a0 a1 a2 a3 a4 a5 a6 : Option Value} {x : Int} (hd : decode M.2.1 pc = .ok (.iload 7, 2)) (k : Rn G M (pc + 2) (a0 :: a1 :: a2 :: a3 :: a4 :: a5 :: a6 :: some (vi x) :: t) (vi x :: st) σ r σ') : Rn G M pc (a0 :: a1 :: a2 :: a3 :: a4 :: a5 :: a6 :: some (vi x) :: t) st σ r σ' := p_iloadG rfl hd k
theorem p_istore7 {G : GX} {M : MI} {pc : Nat} {t : LL} {st : List Value} {σ σ' : SG} {r : Option Value} {a0 a1 a2 a3 a4 a5 a6 : Option Value} {b0 : Option Value} {x : Int} (hc : ocat a6 = true) (hn : 7 < M.2.2.1) (hd : decode M.2.1 pc = .ok (.istore 7, 2)) (k : Rn G M (pc + 2) (a0 :: a1 :: a2 :: a3 :: a4 :: a5 :: a6 :: some (vi x) :: t) st σ r σ') : Rn G M pc (a0 :: a1 :: a2 :: a3 :: a4 :: a5 :: a6 :: b0 :: t) (vi x :: st) σ r σ' := p_istoreG hn (pcat7 hc) rfl hd k
theorem p_lload7 {G : GX} {M : MI} {pc : Nat} {t : LL} {st : List Value} {σ σ' : SG} {r : Option Value} {a0 a1 a2 a3 a4 a5 a6 : Option Value} {x : Int} (hd : decode M.2.1 pc = .ok (.lload 7, 2)) (k : Rn G M (pc + 2) (a0 :: a1 :: a2 :: a3 :: a4 :: a5 :: a6 :: some (vl x) :: t) (vl x :: st) σ r σ') : Rn G M pc (a0 :: a1 :: a2 :: a3 :: a4 :: a5 :: a6 :: some (vl x) :: t) st σ r σ' := p_lloadG rfl hd k
theorem p_lstore7 {G : GX} {M : MI} {pc : Nat} {t : LL} {st : List Value} {σ σ' : SG} {r : Option Value} {a0 a1 a2 a3 a4 a5 a6 : Option Value} {b0 b1 : Option Value} {x : Int} (hc : ocat a6 = true) (hn : 7 + 1 < M.2.2.1) (hd : decode M.2.1 pc = .ok (.lstore 7, 2)) (k : Rn G M (pc + 2) (a0 :: a1 :: a2 :: a3 :: a4 :: a5 :: a6 :: some (vl x) :: none :: t) st σ r σ') : Rn G M pc (a0 :: a1 :: a2 :: a3 :: a4 :: a5 :: a6 :: b0 :: b1 :: t) (vl x :: st) σ r σ' := p_lstoreG hn (pcat7 hc) rfl hd k
theorem p_aload7 {G : GX} {M : MI} {pc : Nat} {t : LL} {st : List Value} {σ σ' : SG} {r : Option Value} {a0 a1 a2 a3 a4 a5 a6 : Option Value} {x : Nat} (hd : decode M.2.1 pc = .ok (.aload 7, 2)) (k : Rn G M (pc + 2) (a0 :: a1 :: a2 :: a3 :: a4 :: a5 :: a6 :: some (.ref x) :: t) (.ref x :: st) σ r σ') : Rn G M pc (a0 :: a1 :: a2 :: a3 :: a4 :: a5 :: a6 :: some (.ref x) :: t) st σ r σ' := p_aloadG rfl hd k
theorem p_astore7 {G : GX} {M : MI} {pc : Nat} {t : LL} {st : List Value} {σ σ' : SG} {r : Option Value} {a0 a1 a2 a3 a4 a5 a6 : Option Value} {b0 : Option Value} {x : Nat} (hc : ocat a6 = true) (hn : 7 < M.2.2.1) (hd : decode M.2.1 pc = .ok (.astore 7, 2)) (k : Rn G M (pc + 2) (a0 :: a1 :: a2 :: a3 :: a4 :: a5 :: a6 :: some (.ref x) :: t) st σ r σ') : Rn G M pc (a0 :: a1 :: a2 :: a3 :: a4 :: a5 :: a6 :: b0 :: t) (.ref x :: st) σ r σ' := p_astoreG hn (pcat7 hc) rfl hd k
theorem p_iinc7 {G : GX} {M : MI} {pc : Nat} {t : LL} {st : List Value} {σ σ' : SG} {r : Option Value} {a0 a1 a2 a3 a4 a5 a6 : Option Value} {x n : Int} (hc : ocat a6 = true) (hn : 7 < M.2.2.1) (hd : decode M.2.1 pc = .ok (.iinc 7 n, 3)) (k : Rn G M (pc + 3) (a0 :: a1 :: a2 :: a3 :: a4 :: a5 :: a6 :: some (vi (x + n)) :: t) st σ r σ') : Rn G M pc (a0 :: a1 :: a2 :: a3 :: a4 :: a5 :: a6 :: some (vi x) :: t) st σ r σ' := p_iincG rfl hn (pcat7 hc) rfl hd k
theorem p_iload8 {G : GX} {M : MI} {pc : Nat} {t : LL} {st : List Value} {σ σ' : SG} {r : Option Value} {a0 a1 a2 a3 a4 a5 a6 a7 : Option Value} {x : Int} (hd : decode M.2.1 pc = .ok (.iload 8, 2)) (k : Rn G M (pc + 2) (a0 :: a1 :: a2 :: a3 :: a4 :: a5 :: a6 :: a7 :: some (vi x) :: t) (vi x :: st) σ r σ') : Rn G M pc (a0 :: a1 :: a2 :: a3 :: a4 :: a5 :: a6 :: a7 :: some (vi x) :: t) st σ r σ' := p_iloadG rfl hd k
theorem p_istore8 {G : GX} {M : MI} {pc : Nat} {t : LL} {st : List Value} {σ σ' : SG} {r : Option Value} {a0 a1 a2 a3 a4 a5 a6 a7 : Option Value} {b0 : Option Value} {x : Int} (hc : ocat a7 = true) (hn : 8 < M.2.2.1) (hd : decode M.2.1 pc = .ok (.istore 8, 2)) (k : Rn G M (pc + 2) (a0 :: a1 :: a2 :: a3 :: a4 :: a5 :: a6 :: a7 :: some (vi x) :: t) st σ r σ') : Rn G M pc (a0 :: a1 :: a2 :: a3 :: a4 :: a5 :: a6 :: a7 :: b0 :: t) (vi x :: st) σ r σ' := p_istoreG hn (pcat8 hc) rfl hd k
theorem p_lload8 {G : GX} {M : MI} {pc : Nat} {t : LL} {st : List Value} {σ σ' : SG} {r : Option Value} {a0 a1 a2 a3 a4 a5 a6 a7 : Option Value} {x : Int} (hd : decode M.2.1 pc = .ok (.lload 8, 2)) (k : Rn G M (pc + 2) (a0 :: a1 :: a2 :: a3 :: a4 :: a5 :: a6 :: a7 :: some (vl x) :: t) (vl x :: st) σ r σ') : Rn G M pc (a0 :: a1 :: a2 :: a3 :: a4 :: a5 :: a6 :: a7 :: some (vl x) :: t) st σ r σ' := p_lloadG rfl hd k
theorem p_lstore8 {G : GX} {M : MI} {pc : Nat} {t : LL} {st : List Value} {σ σ' : SG} {r : Option Value} {a0 a1 a2 a3 a4 a5 a6 a7 : Option Value} {b0 b1 : Option Value} {x : Int} (hc : ocat a7 = true) (hn : 8 + 1 < M.2.2.1) (hd : decode M.2.1 pc = .ok (.lstore 8, 2)) (k : Rn G M (pc + 2) (a0 :: a1 :: a2 :: a3 :: a4 :: a5 :: a6 :: a7 :: some (vl x) :: none :: t) st σ r σ') : Rn G M pc (a0 :: a1 :: a2 :: a3 :: a4 :: a5 :: a6 :: a7 :: b0 :: b1 :: t) (vl x :: st) σ r σ' := p_lstoreG hn (pcat8 hc) rfl hd k
theorem p_aload8 {G : GX} {M : MI} {pc : Nat} {t : LL} {st : List Value} {σ σ' : SG} {r : Option Value} {a0 a1 a2 a3 a4 a5 a6 a7 : Option Value} {x : Nat} (hd : decode M.2.1 pc = .ok (.aload 8, 2)) (k : Rn G M (pc + 2) (a0 :: a1 :: a2 :: a3 :: a4 :: a5 :: a6 :: a7 :: some (.ref x) :: t) (.ref x :: st) σ r σ') : Rn G M pc (a0 :: a1 :: a2 :: a3 :: a4 :: a5 :: a6 :: a7 :: some (.ref x) :: t) st σ r σ' := p_aloadG rfl hd k
theorem p_astore8 {G : GX} {M : MI} {pc : Nat} {t : LL} {st : List Value} {σ σ' : SG} {r : Option Value} {a0 a1 a2 a3 a4 a5 a6 a7 : Option Value} {b0 : Option Value} {x : Nat} (hc : ocat a7 = true) (hn : 8 < M.2.2.1) (hd : decode M.2.1 pc = .ok (.astore 8, 2)) (k : Rn G M (pc + 2) (a0 :: a1 :: a2 :: a3 :: a4 :: a5 :: a6 :: a7 :: some (.ref x) :: t) st σ r σ') : Rn G M pc (a0 :: a1 :: a2 :: a3 :: a4 :: a5 :: a6 :: a7 :: b0 :: t) (.ref x :: st) σ r σ' := p_astoreG hn (pcat8 hc) rfl hd k
theorem p_iinc8 {G : GX} {M : MI} {pc : Nat} {t : LL} {st : List Value} {σ σ' : SG} {r : Option Value} {a0 a1 a2 a3 a4 a5 a6 a7 : Option Value} {x n : Int} (hc : ocat a7 = true) (hn : 8 < M.2.2.1) (hd : decode M.2.1 pc = .ok (.iinc 8 n, 3)) (k : Rn G M (pc + 3) (a0 :: a1 :: a2 :: a3 :: a4 :: a5 :: a6 :: a7 :: some (vi (x + n)) :: t) st σ r σ') : Rn G M pc (a0 :: a1 :: a2 :: a3 :: a4 :: a5 :: a6 :: a7 :: some (vi x) :: t) st σ r σ' := p_iincG rfl hn (pcat8 hc) rfl hd k
theorem p_iload9 {G : GX} {M : MI} {pc : Nat} {t : LL} {st : List Value} {σ σ' : SG} {r : Option Value} {a0 a1 a2 a3 a4 a5 a6 a7 a8 : Option Value} {x : Int} (hd : decode M.2.1 pc = .ok (.iload 9, 2)) (k : Rn G M (pc + 2) (a0 :: a1 :: a2 :: a3 :: a4 :: a5 :: a6 :: a7 :: a8 :: some (vi x) :: t) (vi x :: st) σ r σ') : Rn G M pc (a0 :: a1 :: a2 :: a3 :: a4 :: a5 :: a6 :: a7 :: a8 :: some (vi x) :: t) st σ r σ' := p_iloadG rfl hd k
theorem p_istore9 {G : GX} {M : MI} {pc : Nat} {t : LL} {st : List Value} {σ σ' : SG} {r : Option Value} {a0 a1 a2 a3 a4 a5 a6 a7 a8 : Option Value} {b0 : Option Value} {x : Int} (hc : ocat a8 = true) (hn : 9 < M.2.2.1) (hd : decode M.2.1 pc = .ok (.istore 9, 2)) (k : Rn G M (pc + 2) (a0 :: a1 :: a2 :: a3 :: a4 :: a5 :: a6 :: a7 :: a8 :: some (vi x) :: t) st σ r σ') : Rn G M pc (a0 :: a1 :: a2 :: a3 :: a4 :: a5 :: a6 :: a7 :: a8 :: b0 :: t) (vi x :: st) σ r σ' := p_istoreG hn (pcat9 hc) rfl hd k
theorem p_lload9 {G : GX} {M : MI} {pc : Nat} {t : LL} {st : List Value} {σ σ' : SG} {r : Option Value} {a0 a1 a2 a3 a4 a5 a6 a7 a8 : Option Value} {x : Int} (hd : decode M.2.1 pc = .ok (.lload 9, 2)) (k : Rn G M (pc + 2) (a0 :: a1 :: a2 :: a3 :: a4 :: a5 :: a6 :: a7 :: a8 :: some (vl x) :: t) (vl x :: st) σ r σ') : Rn G M pc (a0 :: a1 :: a2 :: a3 :: a4 :: a5 :: a6 :: a7 :: a8 :: some (vl x) :: t) st σ r σ' := p_lloadG rfl hd k
theorem p_lstore9 {G : GX} {M : MI} {pc : Nat} {t : LL} {st : List Value} {σ σ' : SG} {r : Option Value} {a0 a1 a2 a3 a4 a5 a6 a7 a8 : Option Value} {b0 b1 : Option Value} {x : Int} (hc : ocat a8 = true) (hn : 9 + 1 < M.2.2.1) (hd : decode M.2.1 pc = .ok (.lstore 9, 2)) (k : Rn G M (pc + 2) (a0 :: a1 :: a2 :: a3 :: a4 :: a5 :: a6 :: a7 :: a8 :: some (vl x) :: none :: t) st σ r σ') : Rn G M pc (a0 :: a1 :: a2 :: a3 :: a4 :: a5 :: a6 :: a7 :: a8 :: b0 :: b1 :: t) (vl x :: st) σ r σ' := p_lstoreG hn (pcat9 hc) rfl hd k
theorem p_aload9 {G : GX} {M : MI} {pc : Nat} {t : LL} {st : List Value} {σ σ' : SG} {r : Option Value} {a0 a1 a2 a3 a4 a5 a6 a7 a8 : Option Value} {x : Nat} (hd : decode M.2.1 pc = .ok (.aload 9, 2)) (k : Rn G M (pc + 2) (a0 :: a1 :: a2 :: a3 :: a4 :: a5 :: a6 :: a7 :: a8 :: some (.ref x) :: t) (.ref x :: st) σ r σ') : Rn G M pc (a0 :: a1 :: a2 :: a3 :: a4 :: a5 :: a6 :: a7 :: a8 :: some (.ref x) :: t) st σ r σ' := p_aloadG rfl hd k
theorem p_astore9 {G : GX} {M : MI} {pc : Nat} {t : LL} {st : List Value} {σ σ' : SG} {r : Option Value} {a0 a1 a2 a3 a4 a5 a6 a7 a8 : Option Value} {b0 : Option Value} {x : Nat} (hc : ocat a8 = true) (hn : 9 < M.2.2.1) (hd : decode M.2.1 pc = .ok (.astore 9, 2)) (k : Rn G M (pc + 2) (a0 :: a1 :: a2 :: a3 :: a4 :: a5 :: a6 :: a7 :: a8 :: some (.ref x) :: t) st σ r σ') : Rn G M pc (a0 :: a1 :: a2 :: a3 :: a4 :: a5 :: a6 :: a7 :: a8 :: b0 :: t) (.ref x :: st) σ r σ' := p_astoreG hn (pcat9 hc) rfl hd k
theorem p_iinc9 {G : GX} {M : MI} {pc : Nat} {t : LL} {st : List Value} {σ σ' : SG} {r : Option Value} {a0 a1 a2 a3 a4 a5 a6 a7 a8 : Option Value} {x n : Int} (hc : ocat a8 = true) (hn : 9 < M.2.2.1) (hd : decode M.2.1 pc = .ok (.iinc 9 n, 3)) (k : Rn G M (pc + 3) (a0 :: a1 :: a2 :: a3 :: a4 :: a5 :: a6 :: a7 :: a8 :: some (vi (x + n)) :: t) st σ r σ') : Rn G M pc (a0 :: a1 :: a2 :: a3 :: a4 :: a5 :: a6 :: a7 :: a8 :: some (vi x) :: t) st σ r σ' := p_iincG rfl hn (pcat9 hc) rfl hd k
theorem p_iload10 {G : GX} {M : MI} {pc : Nat} {t : LL} {st : List Value} {σ σ' : SG} {r : Option Value} {a0 a1 a2 a3 a4 a5 a6 a7 a8 a9 : Option Value} {x : Int} (hd : decode M.2.1 pc = .ok (.iload 10, 2)) (k : Rn G M (pc + 2) (a0 :: a1 :: a2 :: a3 :: a4 :: a5 :: a6 :: a7 :: a8 :: a9 :: some (vi x) :: t) (vi x :: st) σ r σ') : Rn G M pc (a0 :: a1 :: a2 :: a3 :: a4 :: a5 :: a6 :: a7 :: a8 :: a9 :: some (vi x) :: t) st σ r σ' := p_iloadG rfl hd k
theorem p_istore10 {G : GX} {M : MI} {pc : Nat} {t : LL} {st : List Value} {σ σ' : SG} {r : Option Value} {a0 a1 a2 a3 a4 a5 a6 a7 a8 a9 : Option Value} {b0 : Option Value} {x : Int} (hc : ocat a9 = true) (hn : 10 < M.2.2.1) (hd : decode M.2.1 pc = .ok (.istore 10, 2)) (k : Rn G M (pc + 2) (a0 :: a1 :: a2 :: a3 :: a4 :: a5 :: a6 :: a7 :: a8 :: a9 :: some (vi x) :: t) st σ r σ') : Rn G M pc (a0 :: a1 :: a2 :: a3 :: a4 :: a5 :: a6 :: a7 :: a8 :: a9 :: b0 :: t) (vi x :: st) σ r σ' := p_istoreG hn (pcat10 hc) rfl hd k
theorem p_lload10 {G : GX} {M : MI} {pc : Nat} {t : LL} {st : List Value} {σ σ' : SG} {r : Option Value} {a0 a1 a2 a3 a4 a5 a6 a7 a8 a9 : Option Value} {x : Int} (hd : decode M.2.1 pc = .ok (.lload 10, 2)) (k : Rn G M (pc + 2) (a0 :: a1 :: a2 :: a3 :: a4 :: a5 :: a6 :: a7 :: a8 :: a9 :: some (vl x) :: t) (vl x :: st) σ r σ') : Rn G M pc (a0 :: a1 :: a2 :: a3 :: a4 :: a5 :: a6 :: a7 :: a8 :: a9 :: some (vl x) :: t) st σ r σ' := p_lloadG rfl hd k
theorem p_lstore10 {G : GX} {M : MI} {pc : Nat} {t : LL} {st : List Value} {σ σ' : SG} {r : Option Value} {a0 a1 a2 a3 a4 a5 a6 a7 a8 a9 : Option Value} {b0 b1 : Option Value} {x : Int} (hc : ocat a9 = true) (hn : 10 + 1 < M.2.2.1) (hd : decode M.2.1 pc = .ok (.lstore 10, 2)) (k : Rn G M (pc + 2) (a0 :: a1 :: a2 :: a3 :: a4 :: a5 :: a6 :: a7 :: a8 :: a9 :: some (vl x) :: none :: t) st σ r σ') : Rn G M pc (a0 :: a1 :: a2 :: a3 :: a4 :: a5 :: a6 :: a7 :: a8 :: a9 :: b0 :: b1 :: t) (vl x :: st) σ r σ' := p_lstoreG hn (pcat10 hc) rfl hd k
theorem p_aload10 {G : GX} {M : MI} {pc : Nat} {t : LL} {st : List Value} {σ σ' : SG} {r : Option Value} {a0 a1 a2 a3 a4 a5 a6 a7 a8 a9 : Option Value} {x : Nat} (hd : decode M.2.1 pc = .ok (.aload 10, 2)) (k : Rn G M (pc + 2) (a0 :: a1 :: a2 :: a3 :: a4 :: a5 :: a6 :: a7 :: a8 :: a9 :: some (.ref x) :: t) (.ref x :: st) σ r σ') : Rn G M pc (a0 :: a1 :: a2 :: a3 :: a4 :: a5 :: a6 :: a7 :: a8 :: a9 :: some (.ref x) :: t) st σ r σ' := p_aloadG rfl hd k
theorem p_astore10 {G : GX} {M : MI} {pc : Nat} {t : LL} {st : List Value} {σ σ' : SG} {r : Option Value} {a0 a1 a2 a3 a4 a5 a6 a7 a8 a9 : Option Value} {b0 : Option Value} {x : Nat} (hc : ocat a9 = true) (hn : 10 < M.2.2.1) (hd : decode M.2.1 pc = .ok (.astore 10, 2)) (k : Rn G M (pc + 2) (a0 :: a1 :: a2 :: a3 :: a4 :: a5 :: a6 :: a7 :: a8 :: a9 :: some (.ref x) :: t) st σ r σ') : Rn G M pc (a0 :: a1 :: a2 :: a3 :: a4 :: a5 :: a6 :: a7 :: a8 :: a9 :: b0 :: t) (.ref x :: st) σ r σ' := p_astoreG hn (pcat10 hc) rfl hd k
theorem p_iinc10 {G : GX} {M : MI} {pc : Nat} {t : LL} {st : List Value} {σ σ' : SG} {r : Option Value} {a0 a1 a2 a3 a4 a5 a6 a7 a8 a9 : Option Value} {x n : Int} (hc : ocat a9 = true) (hn : 10 < M.2.2.1) (hd : decode M.2.1 pc = .ok (.iinc 10 n, 3)) (k : Rn G M (pc + 3) (a0 :: a1 :: a2 :: a3 :: a4 :: a5 :: a6 :: a7 :: a8 :: a9 :: some (vi (x + n)) :: t) st σ r σ') : Rn G M pc (a0 :: a1 :: a2 :: a3 :: a4 :: a5 :: a6 :: a7 :: a8 :: a9 :: some (vi x) :: t) st σ r σ' := p_iincG rfl hn (pcat10 hc) rfl hd k
theorem p_iload11 {G : GX} {M : MI} {pc : Nat} {t : LL} {st : List Value} {σ σ' : SG} {r : Option Value} {a0 a1 a2 a3 a4 a5 a6 a7 a8 a9 a10 : Option Value} {x : Int} (hd : decode M.2.1 pc = .ok (.iload 11, 2)) (k : Rn G M (pc + 2) (a0 :: a1 :: a2 :: a3 :: a4 :: a5 :: a6 :: a7 :: a8 :: a9 :: a10 :: some (vi x) :: t) (vi x :: st) σ r σ') : Rn G M pc (a0 :: a1 :: a2 :: a3 :: a4 :: a5 :: a6 :: a7 :: a8 :: a9 :: a10 :: some (vi x) :: t) st σ r σ' := p_iloadG rfl hd k
theorem p_istore11 {G : GX} {M : MI} {pc : Nat} {t : LL} {st : List Value} {σ σ' : SG} {r : Option Value} {a0 a1 a2 a3 a4 a5 a6 a7 a8 a9 a10 : Option Value} {b0 : Option Value} {x : Int} (hc : ocat a10 = true) (hn : 11 < M.2.2.1) (hd : decode M.2.1 pc = .ok (.istore 11, 2)) (k : Rn G M (pc + 2) (a0 :: a1 :: a2 :: a3 :: a4 :: a5 :: a6 :: a7 :: a8 :: a9 :: a10 :: some (vi x) :: t) st σ r σ') : Rn G M pc (a0 :: a1 :: a2 :: a3 :: a4 :: a5 :: a6 :: a7 :: a8 :: a9 :: a10 :: b0 :: t) (vi x :: st) σ r σ' := p_istoreG hn (pcat11 hc) rfl hd k
theorem p_lload11 {G : GX} {M : MI} {pc : Nat} {t : LL} {st : List Value} {σ σ' : SG} {r : Option Value} {a0 a1 a2 a3 a4 a5 a6 a7 a8 a9 a10 : Option Value} {x : Int} (hd : decode M.2.1 pc = .ok (.lload 11, 2)) (k : Rn G M (pc + 2) (a0 :: a1 :: a2 :: a3 :: a4 :: a5 :: a6 :: a7 :: a8 :: a9 :: a10 :: some (vl x) :: t) (vl x :: st) σ r σ') : Rn G M pc (a0 :: a1 :: a2 :: a3 :: a4 :: a5 :: a6 :: a7 :: a8 :: a9 :: a10 :: some (vl x) :: t) st σ r σ' := p_lloadG rfl hd k
theorem p_lstore11 {G : GX} {M : MI} {pc : Nat} {t : LL} {st : List Value} {σ σ' : SG} {r : Option Value} {a0 a1 a2 a3 a4 a5 a6 a7 a8 a9 a10 : Option Value} {b0 b1 : Option Value} {x : Int} (hc : ocat a10 = true) (hn : 11 + 1 < M.2.2.1) (hd : decode M.2.1 pc = .ok (.lstore 11, 2)) (k : Rn G M (pc + 2) (a0 :: a1 :: a2 :: a3 :: a4 :: a5 :: a6 :: a7 :: a8 :: a9 :: a10 :: some (vl x) :: none :: t) st σ r σ') : Rn G M pc (a0 :: a1 :: a2 :: a3 :: a4 :: a5 :: a6 :: a7 :: a8 :: a9 :: a10 :: b0 :: b1 :: t) (vl x :: st) σ r σ' := p_lstoreG hn (pcat11 hc) rfl hd k
theorem p_aload11 {G : GX} {M : MI} {pc : Nat} {t : LL} {st : List Value} {σ σ' : SG} {r : Option Value} {a0 a1 a2 a3 a4 a5 a6 a7 a8 a9 a10 : Option Value} {x : Nat} (hd : decode M.2.1 pc = .ok (.aload 11, 2)) (k : Rn G M (pc + 2) (a0 :: a1 :: a2 :: a3 :: a4 :: a5 :: a6 :: a7 :: a8 :: a9 :: a10 :: some (.ref x) :: t) (.ref x :: st) σ r σ') : Rn G M pc (a0 :: a1 :: a2 :: a3 :: a4 :: a5 :: a6 :: a7 :: a8 :: a9 :: a10 :: some (.ref x) :: t) st σ r σ' := p_aloadG rfl hd k
theorem p_astore11 {G : GX} {M : MI} {pc : Nat} {t : LL} {st : List Value} {σ σ' : SG} {r : Option Value} {a0 a1 a2 a3 a4 a5 a6 a7 a8 a9 a10 : Option Value} {b0 : Option Value} {x : Nat} (hc : ocat a10 = true) (hn : 11 < M.2.2.1) (hd : decode M.2.1 pc = .ok (.astore 11, 2)) (k : Rn G M (pc + 2) (a0 :: a1 :: a2 :: a3 :: a4 :: a5 :: a6 :: a7 :: a8 :: a9 :: a10 :: some (.ref x) :: t) st σ r σ') : Rn G M pc (a0 :: a1 :: a2 :: a3 :: a4 :: a5 :: a6 :: a7 :: a8 :: a9 :: a10 :: b0 :: t) (.ref x :: st) σ r σ' := p_astoreG hn (pcat11 hc) rfl hd k
theorem p_iinc11 {G : GX} {M : MI} {pc : Nat} {t : LL} {st : List Value} {σ σ' : SG} {r : Option Value} {a0 a1 a2 a3 a4 a5 a6 a7 a8 a9 a10 : Option Value} {x n : Int} (hc : ocat a10 = true) (hn : 11 < M.2.2.1) (hd : decode M.2.1 pc = .ok (.iinc 11 n, 3)) (k : Rn G M (pc + 3) (a0 :: a1 :: a2 :: a3 :: a4 :: a5 :: a6 :: a7 :: a8 :: a9 :: a10 :: some (vi (x + n)) :: t) st σ r σ') : Rn G M pc (a0 :: a1 :: a2 :: a3 :: a4 :: a5 :: a6 :: a7 :: a8 :: a9 :: a10 :: some (vi x) :: t) st σ r σ' := p_iincG rfl hn (pcat11 hc) rfl hd k
theorem p_iload12 {G : GX} {M : MI} {pc : Nat} {t : LL} {st : List Value} {σ σ' : SG} {r : Option Value} {a0 a1 a2 a3 a4 a5 a6 a7 a8 a9 a10 a11 : Option Value} {x : Int} (hd : decode M.2.1 pc = .ok (.iload 12, 2)) (k : Rn G M (pc + 2) (a0 :: a1 :: a2 :: a3 :: a4 :: a5 :: a6 :: a7 :: a8 :: a9 :: a10 :: a11 :: some (vi x) :: t) (vi x :: st) σ r σ') : Rn G M pc (a0 :: a1 :: a2 :: a3 :: a4 :: a5 :: a6 :: a7 :: a8 :: a9 :: a10 :: a11 :: some (vi x) :: t) st σ r σ' := p_iloadG rfl hd k
theorem p_istore12 {G : GX} {M : MI} {pc : Nat} {t : LL} {st : List Value} {σ σ' : SG} {r : Option Value} {a0 a1 a2 a3 a4 a5 a6 a7 a8 a9 a10 a11 : Option Value} {b0 : Option Value} {x : Int} (hc : ocat a11 = true) (hn : 12 < M.2.2.1) (hd : decode M.2.1 pc = .ok (.istore 12, 2)) (k : Rn G M (pc + 2) (a0 :: a1 :: a2 :: a3 :: a4 :: a5 :: a6 :: a7 :: a8 :: a9 :: a10 :: a11 :: some (vi x) :: t) st σ r σ') : Rn G M pc (a0 :: a1 :: a2 :: a3 :: a4 :: a5 :: a6 :: a7 :: a8 :: a9 :: a10 :: a11 :: b0 :: t) (vi x :: st) σ r σ' := p_istoreG hn (pcat12 hc) rfl hd k
theorem p_lload12 {G : GX} {M : MI} {pc : Nat} {t : LL} {st : List Value} {σ σ' : SG} {r : Option Value} {a0 a1 a2 a3 a4 a5 a6 a7 a8 a9 a10 a11 : Option Value} {x : Int} (hd : decode M.2.1 pc = .ok (.lload 12, 2)) (k : Rn G M (pc + 2) (a0 :: a1 :: a2 :: a3 :: a4 :: a5 :: a6 :: a7 :: a8 :: a9 :: a10 :: a11 :: some (vl x) :: t) (vl x :: st) σ r σ') : Rn G M pc (a0 :: a1 :: a2 :: a3 :: a4 :: a5 :: a6 :: a7 :: a8 :: a9 :: a10 :: a11 :: some (vl x) :: t) st σ r σ' := p_lloadG rfl hd k
theorem p_lstore12 {G : GX} {M : MI} {pc : Nat} {t : LL} {st : List Value} {σ σ' : SG} {r : Option Value} {a0 a1 a2 a3 a4 a5 a6 a7 a8 a9 a10 a11 : Option Value} {b0 b1 : Option Value} {x : Int} (hc : ocat a11 = true) (hn : 12 + 1 < M.2.2.1) (hd : decode M.2.1 pc = .ok (.lstore 12, 2)) (k : Rn G M (pc + 2) (a0 :: a1 :: a2 :: a3 :: a4 :: a5 :: a6 :: a7 :: a8 :: a9 :: a10 :: a11 :: some (vl x) :: none :: t) st σ r σ') : Rn G M pc (a0 :: a1 :: a2 :: a3 :: a4 :: a5 :: a6 :: a7 :: a8 :: a9 :: a10 :: a11 :: b0 :: b1 :: t) (vl x :: st) σ r σ' := p_lstoreG hn (pcat12 hc) rfl hd k
theorem p_aload12 {G : GX} {M : MI} {pc : Nat} {t : LL} {st : List Value} {σ σ' : SG} {r : Option Value} {a0 a1 a2 a3 a4 a5 a6 a7 a8 a9 a10 a11 : Option Value} {x : Nat} (hd : decode M.2.1 pc = .ok (.aload 12, 2)) (k : Rn G M (pc + 2) (a0 :: a1 :: a2 :: a3 :: a4 :: a5 :: a6 :: a7 :: a8 :: a9 :: a10 :: a11 :: some (.ref x) :: t) (.ref x :: st) σ r σ') : Rn G M pc (a0 :: a1 :: a2 :: a3 :: a4 :: a5 :: a6 :: a7 :: a8 :: a9 :: a10 :: a11 :: some (.ref x) :: t) st σ r σ' := p_aloadG rfl hd k
theorem p_astore12 {G : GX} {M : MI} {pc : Nat} {t : LL} {st : List Value} {σ σ' : SG} {r : Option Value} {a0 a1 a2 a3 a4 a5 a6 a7 a8 a9 a10 a11 : Option Value} {b0 : Option Value} {x : Nat} (hc : ocat a11 = true) (hn : 12 < M.2.2.1) (hd : decode M.2.1 pc = .ok (.astore 12, 2)) (k : Rn G M (pc + 2) (a0 :: a1 :: a2 :: a3 :: a4 :: a5 :: a6 :: a7 :: a8 :: a9 :: a10 :: a11 :: some (.ref x) :: t) st σ r σ') : Rn G M pc (a0 :: a1 :: a2 :: a3 :: a4 :: a5 :: a6 :: a7 :: a8 :: a9 :: a10 :: a11 :: b0 :: t) (.ref x :: st) σ r σ' := p_astoreG hn (pcat12 hc) rfl hd k
theorem p_iinc12 {G : GX} {M : MI} {pc : Nat} {t : LL} {st : List Value} {σ σ' : SG} {r : Option Value} {a0 a1 a2 a3 a4 a5 a6 a7 a8 a9 a10 a11 : Option Value} {x n : Int} (hc : ocat a11 = true) (hn : 12 < M.2.2.1) (hd : decode M.2.1 pc = .ok (.iinc 12 n, 3)) (k : Rn G M (pc + 3) (a0 :: a1 :: a2 :: a3 :: a4 :: a5 :: a6 :: a7 :: a8 :: a9 :: a10 :: a11 :: some (vi (x + n)) :: t) st σ r σ') : Rn G M pc (a0 :: a1 :: a2 :: a3 :: a4 :: a5 :: a6 :: a7 :: a8 :: a9 :: a10 :: a11 :: some (vi x) :: t) st σ r σ' := p_iincG rfl hn (pcat12 hc) rfl hd k
theorem p_iload13 {G : GX} {M : MI} {pc : Nat} {t : LL} {st : List Value} {σ σ' : SG} {r : Option Value} {a0 a1 a2 a3 a4 a5 a6 a7 a8 a9 a10 a11 a12 : Option Value} {x : Int} (hd : decode M.2.1 pc = .ok (.iload 13, 2)) (k : Rn G M (pc + 2) (a0 :: a1 :: a2 :: a3 :: a4 :: a5 :: a6 :: a7 :: a8 :: a9 :: a10 :: a11 :: a12 :: some (vi x) :: t) (vi x :: st) σ r σ') : Rn G M pc (a0 :: a1 :: a2 :: a3 :: a4 :: a5 :: a6 :: a7 :: a8 :: a9 :: a10 :: a11 :: a12 :: some (vi x) :: t) st σ r σ' := p_iloadG rfl hd k
theorem p_istore13 {G : GX} {M : MI} {pc : Nat} {t : LL} {st : List Value} {σ σ' : SG} {r : Option Value} {a0 a1 a2 a3 a4 a5 a6 a7 a8 a9 a10 a11 a12 : Option Value} {b0 : Option Value} {x : Int} (hc : ocat a12 = true) (hn : 13 < M.2.2.1) (hd : decode M.2.1 pc = .ok (.istore 13, 2)) (k : Rn G M (pc + 2) (a0 :: a1 :: a2 :: a3 :: a4 :: a5 :: a6 :: a7 :: a8 :: a9 :: a10 :: a11 :: a12 :: some (vi x) :: t) st σ r σ') : Rn G M pc (a0 :: a1 :: a2 :: a3 :: a4 :: a5 :: a6 :: a7 :: a8 :: a9 :: a10 :: a11 :: a12 :: b0 :: t) (vi x :: st) σ r σ' := p_istoreG hn (pcat13 hc) rfl hd k
theorem p_lload13 {G : GX} {M : MI} {pc : Nat} {t : LL} {st : List Value} {σ σ' : SG} {r : Option Value} {a0 a1 a2 a3 a4 a5 a6 a7 a8 a9 a10 a11 a12 : Option Value} {x : Int} (hd : decode M.2.1 pc = .ok (.lload 13, 2)) (k : Rn G M (pc + 2) (a0 :: a1 :: a2 :: a3 :: a4 :: a5 :: a6 :: a7 :: a8 :: a9 :: a10 :: a11 :: a12 :: some (vl x) :: t) (vl x :: st) σ r σ') : Rn G M pc (a0 :: a1 :: a2 :: a3 :: a4 :: a5 :: a6 :: a7 :: a8 :: a9 :: a10 :: a11 :: a12 :: some (vl x) :: t) st σ r σ' := p_lloadG rfl hd k
theorem p_lstore13 {G : GX} {M : MI} {pc : Nat} {t : LL} {st : List Value} {σ σ' : SG} {r : Option Value} {a0 a1 a2 a3 a4 a5 a6 a7 a8 a9 a10 a11 a12 : Option Value} {b0 b1 : Option Value} {x : Int} (hc : ocat a12 = true) (hn : 13 + 1 < M.2.2.1) (hd : decode M.2.1 pc = .ok (.lstore 13, 2)) (k : Rn G M (pc + 2) (a0 :: a1 :: a2 :: a3 :: a4 :: a5 :: a6 :: a7 :: a8 :: a9 :: a10 :: a11 :: a12 :: some (vl x) :: none :: t) st σ r σ') : Rn G M pc (a0 :: a1 :: a2 :: a3 :: a4 :: a5 :: a6 :: a7 :: a8 :: a9 :: a10 :: a11 :: a12 :: b0 :: b1 :: t) (vl x :: st) σ r σ' := p_lstoreG hn (pcat13 hc) rfl hd k
theorem p_aload13 {G : GX} {M : MI} {pc : Nat} {t : LL} {st : List Value} {σ σ' : SG} {r : Option Value} {a0 a1 a2 a3 a4 a5 a6 a7 a8 a9 a10 a11 a12 : Option Value} {x : Nat} (hd : decode M.2.1 pc = .ok (.aload 13, 2)) (k : Rn G M (pc + 2) (a0 :: a1 :: a2 :: a3 :: a4 :: a5 :: a6 :: a7 :: a8 :: a9 :: a10 :: a11 :: a12 :: some (.ref x) :: t) (.ref x :: st) σ r σ') : Rn G M pc (a0 :: a1 :: a2 :: a3 :: a4 :: a5 :: a6 :: a7 :: a8 :: a9 :: a10 :: a11 :: a12 :: some (.ref x) :: t) st σ r σ' := p_aloadG rfl hd k
theorem p_astore13 {G : GX} {M : MI} {pc : Nat} {t : LL} {st : List Value} {σ σ' : SG} {r : Option Value} {a0 a1 a2 a3 a4 a5 a6 a7 a8 a9 a10 a11 a12 : Option Value} {b0 : Option Value} {x : Nat} (hc : ocat a12 = true) (hn : 13 < M.2.2.1) (hd : decode M.2.1 pc = .ok (.astore 13, 2)) (k : Rn G M (pc + 2) (a0 :: a1 :: a2 :: a3 :: a4 :: a5 :: a6 :: a7 :: a8 :: a9 :: a10 :: a11 :: a12 :: some (.ref x) :: t) st σ r σ') : Rn G M pc (a0 :: a1 :: a2 :: a3 :: a4 :: a5 :: a6 :: a7 :: a8 :: a9 :: a10 :: a11 :: a12 :: b0 :: t) (.ref x :: st) σ r σ' := p_astoreG hn (pcat13 hc) rfl hd k
theorem p_iinc13 {G : GX} {M : MI} {pc : Nat} {t : LL} {st : List Value} {σ σ' : SG} {r : Option Value} {a0 a1 a2 a3 a4 a5 a6 a7 a8 a9 a10 a11 a12 : Option Value} {x n : Int} (hc : ocat a12 = true) (hn : 13 < M.2.2.1) (hd : decode M.2.1 pc = .ok (.iinc 13 n, 3)) (k : Rn G M (pc + 3) (a0 :: a1 :: a2 :: a3 :: a4 :: a5 :: a6 :: a7 :: a8 :: a9 :: a10 :: a11 :: a12 :: some (vi (x + n)) :: t) st σ r σ') : Rn G M pc (a0 :: a1 :: a2 :: a3 :: a4 :: a5 :: a6 :: a7 :: a8 :: a9 :: a10 :: a11 :: a12 :: some (vi x) :: t) st σ r σ' := p_iincG rfl hn (pcat13 hc) rfl hd k
def lle : LL → LL → Prop
  | [], _ => True
  | none :: t, [] => lle t []
  | none :: t, _ :: u => lle t u
  | some _ :: _, [] => False
  | some v :: t, a :: u => a = some v ∧ lle t u
theorem lle_at : ∀ (A B : LL), lle A B → ∀ (k : Nat) (v : Value), A[k]? = some (some v) → B[k]? = some (some v) := by
  intro A
  induction A with
  | nil => intro B h k v hk; simp at hk
  | cons a t ih =>
    intro B h k v hk
    cases a with
    | none =>
      cases k with
      | zero => simp at hk
      | succ k =>
        cases B with
        | nil => have := ih [] h k v (by simpa using hk); simp at this
        | cons b u => simpa using ih u h k v (by simpa using hk)
    | some w =>
      cases B with
      | nil => exact h.elim
      | cons b u =>
        cases k with
        | zero => simp at hk; subst hk; simp [h.1]
        | succ k => simpa using ih u h.2 k v (by simpa using hk)
theorem Rn.keep {G : GX} {M : MI} {pc : Nat} {L : LL} {st : List Value} {σ σ' : SG} {r : Option Value} {L' : LL} (hs : lle L' L) (k : Rn G M pc L' st σ r σ') : Rn G M pc L st σ r σ' := by
  intro p l e s m args below meth c H locs ls C X hl
  exact k p l e s m args below meth c H locs ls C X (hl.mono (lle_at L' L hs))
theorem Rn.eqs {G : GX} {M : MI} {pc : Nat} {L : LL} {st : List Value} {σ σ' : SG} {r : Option Value} {σ1 : SG} (h : σ = σ1) (k : Rn G M pc L st σ1 r σ') : Rn G M pc L st σ r σ' := h ▸ k
theorem Rn.eqst {G : GX} {M : MI} {pc : Nat} {L : LL} {st : List Value} {σ σ' : SG} {r : Option Value} {st1 : List Value} (h : st = st1) (k : Rn G M pc L st1 σ r σ') : Rn G M pc L st σ r σ' := h ▸ k
theorem Rn.eqL {G : GX} {M : MI} {pc : Nat} {L : LL} {st : List Value} {σ σ' : SG} {r : Option Value} {L1 : LL} (h : L = L1) (k : Rn G M pc L1 st σ r σ') : Rn G M pc L st σ r σ' := h ▸ k
theorem p_iadd {G : GX} {M : MI} {pc : Nat} {L : LL} {st : List Value} {σ σ' : SG} {r : Option Value} {a b : Int} (hd : decode M.2.1 pc = .ok (.iadd, 1)) (k : Rn G M (pc + 1) L (vi (a + b) :: st) σ r σ') : Rn G M pc L (vi b :: vi a :: st) σ r σ' := by
  intro p l e s m args below meth c H locs ls C X hl
  refine lv_iadd C.1 C.2.1 hd ?_
  have h := k p l e s m args below meth c H locs ls C X hl
  rw [vi, Int32.ofInt_add] at h
  exact h
theorem p_isub {G : GX} {M : MI} {pc : Nat} {L : LL} {st : List Value} {σ σ' : SG} {r : Option Value} {a b : Int} (hd : decode M.2.1 pc = .ok (.isub, 1)) (k : Rn G M (pc + 1) L (vi (a - b) :: st) σ r σ') : Rn G M pc L (vi b :: vi a :: st) σ r σ' := by
  intro p l e s m args below meth c H locs ls C X hl
  refine lv_isub C.1 C.2.1 hd ?_
  have h := k p l e s m args below meth c H locs ls C X hl
  rw [vi, Int32.ofInt_sub] at h
  exact h
theorem p_imul {G : GX} {M : MI} {pc : Nat} {L : LL} {st : List Value} {σ σ' : SG} {r : Option Value} {a b : Int} (hd : decode M.2.1 pc = .ok (.imul, 1)) (k : Rn G M (pc + 1) L (vi (a * b) :: st) σ r σ') : Rn G M pc L (vi b :: vi a :: st) σ r σ' := by
  intro p l e s m args below meth c H locs ls C X hl
  refine lv_imul C.1 C.2.1 hd ?_
  have h := k p l e s m args below meth c H locs ls C X hl
  rw [vi, Int32.ofInt_mul] at h
  exact h
theorem p_ladd {G : GX} {M : MI} {pc : Nat} {L : LL} {st : List Value} {σ σ' : SG} {r : Option Value} {a b : Int} (hd : decode M.2.1 pc = .ok (.ladd, 1)) (k : Rn G M (pc + 1) L (vl (a + b) :: st) σ r σ') : Rn G M pc L (vl b :: vl a :: st) σ r σ' := by
  intro p l e s m args below meth c H locs ls C X hl
  refine lv_ladd C.1 C.2.1 hd ?_
  have h := k p l e s m args below meth c H locs ls C X hl
  rw [vl, Int64.ofInt_add] at h
  exact h
theorem p_lmul {G : GX} {M : MI} {pc : Nat} {L : LL} {st : List Value} {σ σ' : SG} {r : Option Value} {a b : Int} (hd : decode M.2.1 pc = .ok (.lmul, 1)) (k : Rn G M (pc + 1) L (vl (a * b) :: st) σ r σ') : Rn G M pc L (vl b :: vl a :: st) σ r σ' := by
  intro p l e s m args below meth c H locs ls C X hl
  refine lv_lmul C.1 C.2.1 hd ?_
  have h := k p l e s m args below meth c H locs ls C X hl
  rw [vl, Int64.ofInt_mul] at h
  exact h
def bAnd (a b : Int) : Int := (Int32.ofInt a &&& Int32.ofInt b).toInt
def bOr (a b : Int) : Int := (Int32.ofInt a ||| Int32.ofInt b).toInt
def bXor (a b : Int) : Int := (Int32.ofInt a ^^^ Int32.ofInt b).toInt
def bShl (a b : Int) : Int := (Int32.ofInt a <<< (Int32.ofInt b &&& 31)).toInt
def bShr (a b : Int) : Int := (Int32.ofInt a >>> (Int32.ofInt b &&& 31)).toInt
def bUsr (a b : Int) : Int := (((Int32.ofInt a).toUInt32 >>> ((Int32.ofInt b).toUInt32 &&& Int32.toUInt32 31)).toInt32).toInt
def nb8 (a : Int) : Int := ((Int32.ofInt a).toInt8.toInt32).toInt
def nb16 (a : Int) : Int := ((Int32.ofInt a).toInt16.toInt32).toInt
def nbc (a : Int) : Int := (((Int32.ofInt a).toUInt32 % 65536).toInt32).toInt
theorem p_iand {G : GX} {M : MI} {pc : Nat} {L : LL} {st : List Value} {σ σ' : SG} {r : Option Value} {a b : Int} (hd : decode M.2.1 pc = .ok (.iand, 1)) (k : Rn G M (pc + 1) L (vi (bAnd a b) :: st) σ r σ') : Rn G M pc L (vi b :: vi a :: st) σ r σ' := by
  intro p l e s m args below meth c H locs ls C X hl
  refine lv_iand C.1 C.2.1 hd ?_
  have h := k p l e s m args below meth c H locs ls C X hl
  rw [vi, bAnd, Int32.ofInt_toInt] at h
  exact h
theorem p_ior {G : GX} {M : MI} {pc : Nat} {L : LL} {st : List Value} {σ σ' : SG} {r : Option Value} {a b : Int} (hd : decode M.2.1 pc = .ok (.ior, 1)) (k : Rn G M (pc + 1) L (vi (bOr a b) :: st) σ r σ') : Rn G M pc L (vi b :: vi a :: st) σ r σ' := by
  intro p l e s m args below meth c H locs ls C X hl
  refine lv_ior C.1 C.2.1 hd ?_
  have h := k p l e s m args below meth c H locs ls C X hl
  rw [vi, bOr, Int32.ofInt_toInt] at h
  exact h
theorem p_ixor {G : GX} {M : MI} {pc : Nat} {L : LL} {st : List Value} {σ σ' : SG} {r : Option Value} {a b : Int} (hd : decode M.2.1 pc = .ok (.ixor, 1)) (k : Rn G M (pc + 1) L (vi (bXor a b) :: st) σ r σ') : Rn G M pc L (vi b :: vi a :: st) σ r σ' := by
  intro p l e s m args below meth c H locs ls C X hl
  refine lv_ixor C.1 C.2.1 hd ?_
  have h := k p l e s m args below meth c H locs ls C X hl
  rw [vi, bXor, Int32.ofInt_toInt] at h
  exact h
theorem p_ishl {G : GX} {M : MI} {pc : Nat} {L : LL} {st : List Value} {σ σ' : SG} {r : Option Value} {a b : Int} (hd : decode M.2.1 pc = .ok (.ishl, 1)) (k : Rn G M (pc + 1) L (vi (bShl a b) :: st) σ r σ') : Rn G M pc L (vi b :: vi a :: st) σ r σ' := by
  intro p l e s m args below meth c H locs ls C X hl
  refine lv_ishl C.1 C.2.1 hd ?_
  have h := k p l e s m args below meth c H locs ls C X hl
  rw [vi, bShl, Int32.ofInt_toInt] at h
  exact h
theorem p_ishr {G : GX} {M : MI} {pc : Nat} {L : LL} {st : List Value} {σ σ' : SG} {r : Option Value} {a b : Int} (hd : decode M.2.1 pc = .ok (.ishr, 1)) (k : Rn G M (pc + 1) L (vi (bShr a b) :: st) σ r σ') : Rn G M pc L (vi b :: vi a :: st) σ r σ' := by
  intro p l e s m args below meth c H locs ls C X hl
  refine lv_ishr C.1 C.2.1 hd ?_
  have h := k p l e s m args below meth c H locs ls C X hl
  rw [vi, bShr, Int32.ofInt_toInt] at h
  exact h
theorem p_iushr {G : GX} {M : MI} {pc : Nat} {L : LL} {st : List Value} {σ σ' : SG} {r : Option Value} {a b : Int} (hd : decode M.2.1 pc = .ok (.iushr, 1)) (k : Rn G M (pc + 1) L (vi (bUsr a b) :: st) σ r σ') : Rn G M pc L (vi b :: vi a :: st) σ r σ' := by
  intro p l e s m args below meth c H locs ls C X hl
  refine lv_iushr C.1 C.2.1 hd rfl ?_
  have h := k p l e s m args below meth c H locs ls C X hl
  rw [vi, bUsr, Int32.ofInt_toInt] at h
  exact h
theorem p_i2b {G : GX} {M : MI} {pc : Nat} {L : LL} {st : List Value} {σ σ' : SG} {r : Option Value} {a : Int} (hd : decode M.2.1 pc = .ok (.i2b, 1)) (k : Rn G M (pc + 1) L (vi (nb8 a) :: st) σ r σ') : Rn G M pc L (vi a :: st) σ r σ' := by
  intro p l e s m args below meth c H locs ls C X hl
  refine lv_i2b C.1 C.2.1 hd rfl ?_
  have h := k p l e s m args below meth c H locs ls C X hl
  rw [vi, nb8, Int32.ofInt_toInt] at h
  exact h
theorem p_i2s {G : GX} {M : MI} {pc : Nat} {L : LL} {st : List Value} {σ σ' : SG} {r : Option Value} {a : Int} (hd : decode M.2.1 pc = .ok (.i2s, 1)) (k : Rn G M (pc + 1) L (vi (nb16 a) :: st) σ r σ') : Rn G M pc L (vi a :: st) σ r σ' := by
  intro p l e s m args below meth c H locs ls C X hl
  refine lv_i2s C.1 C.2.1 hd rfl ?_
  have h := k p l e s m args below meth c H locs ls C X hl
  rw [vi, nb16, Int32.ofInt_toInt] at h
  exact h
theorem p_i2c {G : GX} {M : MI} {pc : Nat} {L : LL} {st : List Value} {σ σ' : SG} {r : Option Value} {a : Int} (hd : decode M.2.1 pc = .ok (.i2c, 1)) (k : Rn G M (pc + 1) L (vi (nbc a) :: st) σ r σ') : Rn G M pc L (vi a :: st) σ r σ' := by
  intro p l e s m args below meth c H locs ls C X hl
  refine lv_i2c C.1 C.2.1 hd rfl ?_
  have h := k p l e s m args below meth c H locs ls C X hl
  rw [vi, nbc, Int32.ofInt_toInt] at h
  exact h
theorem p_i2l {G : GX} {M : MI} {pc : Nat} {L : LL} {st : List Value} {σ σ' : SG} {r : Option Value} {a : Int} (ha : inR a) (hd : decode M.2.1 pc = .ok (.i2l, 1)) (k : Rn G M (pc + 1) L (vl a :: st) σ r σ') : Rn G M pc L (vi a :: st) σ r σ' := by
  intro p l e s m args below meth c H locs ls C X hl
  exact lv_i2l (v := Int64.ofInt a) C.1 C.2.1 hd (Int32.toInt64_ofInt ha.1 ha.2) (k p l e s m args below meth c H locs ls C X hl)
theorem p_l2i {G : GX} {M : MI} {pc : Nat} {L : LL} {st : List Value} {σ σ' : SG} {r : Option Value} {a : Int} (hd : decode M.2.1 pc = .ok (.l2i, 1)) (k : Rn G M (pc + 1) L (vi a :: st) σ r σ') : Rn G M pc L (vl a :: st) σ r σ' := by
  intro p l e s m args below meth c H locs ls C X hl
  exact lv_l2i (v := Int32.ofInt a) C.1 C.2.1 hd Int64.toInt32_ofInt (k p l e s m args below meth c H locs ls C X hl)
theorem i32_ne0 {b : Int} (hb : inR b) (h0 : 0 < b) : ¬ Int32.ofInt b = 0 := fun h => by
  have := (i32_eq hb inR0).mp h
  omega
theorem i32_div {a b : Int} (ha : inR a) (hb : inR b) (h0 : 0 ≤ a) (h1 : 0 < b) : Int32.ofInt a / Int32.ofInt b = Int32.ofInt (a / b) := by
  have hq : inR (a / b) := by
    have h2 : 0 ≤ a / b := Int.ediv_nonneg h0 (by omega)
    have h3 : a / b ≤ a := Int.ediv_le_self b h0
    have := ha.2
    constructor <;> omega
  rw [← Int32.toInt_inj, i32_toInt hq, Int32.toInt_div_of_ne_right, i32_toInt ha, i32_toInt hb, Int.tdiv_eq_ediv_of_nonneg h0]
  intro h
  have h2 : (Int32.ofInt b).toInt = (-1 : Int32).toInt := by rw [h]
  rw [i32_toInt hb] at h2
  have h3 : (-1 : Int32).toInt = -1 := by decide
  omega
theorem p_idiv {G : GX} {M : MI} {pc : Nat} {L : LL} {st : List Value} {σ σ' : SG} {r : Option Value} {a b : Int} (ha : inR a) (hb : inR b) (h0 : 0 ≤ a) (h1 : 0 < b) (hd : decode M.2.1 pc = .ok (.idiv, 1)) (k : Rn G M (pc + 1) L (vi (a / b) :: st) σ r σ') : Rn G M pc L (vi b :: vi a :: st) σ r σ' := by
  intro p l e s m args below meth c H locs ls C X hl
  refine lv_idiv C.1 C.2.1 hd (i32_ne0 hb h1) ?_
  have h := k p l e s m args below meth c H locs ls C X hl
  rw [vi, ← i32_div ha hb h0 h1] at h
  exact h
theorem p_irem {G : GX} {M : MI} {pc : Nat} {L : LL} {st : List Value} {σ σ' : SG} {r : Option Value} {a b : Int} (ha : inR a) (hb : inR b) (h0 : 0 ≤ a) (h1 : 0 < b) (hd : decode M.2.1 pc = .ok (.irem, 1)) (k : Rn G M (pc + 1) L (vi (a % b) :: st) σ r σ') : Rn G M pc L (vi b :: vi a :: st) σ r σ' := by
  intro p l e s m args below meth c H locs ls C X hl
  refine lv_irem C.1 C.2.1 hd (i32_ne0 hb h1) ?_
  have h := k p l e s m args below meth c H locs ls C X hl
  have e : a % b = a - a / b * b := by rw [Int.emod_def, Int.mul_comm]
  rw [vi, e, Int32.ofInt_sub, Int32.ofInt_mul, ← i32_div ha hb h0 h1] at h
  exact h
def sgn (a b : Int) : Int := if a < b then -1 else if a = b then 0 else 1
theorem lg_cmp_sgn {a b : Int} (ha : inL a) (hb : inL b) : lg_cmp (Int64.ofInt a) (Int64.ofInt b) = Int32.ofInt (sgn a b) := by
  have h1 := i64_lt ha hb
  have h2 := i64_eq ha hb
  have h3 := i64_lt hb ha
  unfold lg_cmp sgn
  by_cases c1 : a < b
  · rw [if_neg (fun z => by have := h3.mp z; omega), if_neg (fun z => by have := h2.mp z; omega), if_pos c1]; rfl
  · by_cases c2 : a = b
    · subst c2; simp
    · have c3 : b < a := by omega
      rw [if_pos (h3.mpr c3), if_neg c1, if_neg c2]; rfl
theorem p_lcmp {G : GX} {M : MI} {pc : Nat} {L : LL} {st : List Value} {σ σ' : SG} {r : Option Value} {a b : Int} (ha : inL a) (hb : inL b) (hd : decode M.2.1 pc = .ok (.lcmp, 1)) (k : Rn G M (pc + 1) L (vi (sgn a b) :: st) σ r σ') : Rn G M pc L (vl b :: vl a :: st) σ r σ' := by
  intro p l e s m args below meth c H locs ls C X hl
  refine W.lcmp C.1 C.2.1 hd ?_
  have h := k p l e s m args below meth c H locs ls C X hl
  rw [vi, ← lg_cmp_sgn ha hb] at h
  exact h
theorem p_dup {G : GX} {M : MI} {pc : Nat} {L : LL} {st : List Value} {σ σ' : SG} {r : Option Value} {v : Value} (hv : v.category = 1) (hd : decode M.2.1 pc = .ok (.dup, 1)) (k : Rn G M (pc + 1) L (v :: v :: st) σ r σ') : Rn G M pc L (v :: st) σ r σ' := by
  intro p l e s m args below meth c H locs ls C X hl
  exact lv_dup C.1 C.2.1 hd hv (k p l e s m args below meth c H locs ls C X hl)
theorem p_pop {G : GX} {M : MI} {pc : Nat} {L : LL} {st : List Value} {σ σ' : SG} {r : Option Value} {v : Value} (hv : v.category = 1) (hd : decode M.2.1 pc = .ok (.pop, 1)) (k : Rn G M (pc + 1) L (st) σ r σ') : Rn G M pc L (v :: st) σ r σ' := by
  intro p l e s m args below meth c H locs ls C X hl
  exact lv_pop C.1 C.2.1 hd hv (k p l e s m args below meth c H locs ls C X hl)
theorem p_dup2 {G : GX} {M : MI} {pc : Nat} {L : LL} {st : List Value} {σ σ' : SG} {r : Option Value} {v w : Value} (hv : v.category = 1) (hw : w.category = 1) (hd : decode M.2.1 pc = .ok (.dup2, 1)) (k : Rn G M (pc + 1) L (v :: w :: v :: w :: st) σ r σ') : Rn G M pc L (v :: w :: st) σ r σ' := by
  intro p l e s m args below meth c H locs ls C X hl
  exact lv_dup2_11 C.1 C.2.1 hd hv hw (k p l e s m args below meth c H locs ls C X hl)
theorem p_if_eq {G : GX} {M : MI} {pc : Nat} {L : LL} {st : List Value} {σ σ' : SG} {r : Option Value} {a : Int} (ha : inR a) {off : Int} (tgt : Nat) (hd : decode M.2.1 pc = .ok (.ifCond .eq off, 3)) (ht : (pc : Int) + off = (tgt : Int)) (kt : a = 0 → Rn G M tgt L st σ r σ') (kf : ¬ a = 0 → Rn G M (pc + 3) L st σ r σ') : Rn G M pc L (vi a :: st) σ r σ' := by
  intro p l e s m args below meth c H locs ls C X hl
  exact lv_if_eq C.1 C.2.1 hd ht (fun h => kt ((i32_eq ha inR0).mp h) p l e s m args below meth c H locs ls C X hl) (fun h => kf (fun q => h ((i32_eq ha inR0).mpr q)) p l e s m args below meth c H locs ls C X hl)
theorem p_icmp_eq {G : GX} {M : MI} {pc : Nat} {L : LL} {st : List Value} {σ σ' : SG} {r : Option Value} {a b : Int} (ha : inR a) (hb : inR b) {off : Int} (tgt : Nat) (hd : decode M.2.1 pc = .ok (.if_icmp .eq off, 3)) (ht : (pc : Int) + off = (tgt : Int)) (kt : a = b → Rn G M tgt L st σ r σ') (kf : ¬ a = b → Rn G M (pc + 3) L st σ r σ') : Rn G M pc L (vi b :: vi a :: st) σ r σ' := by
  intro p l e s m args below meth c H locs ls C X hl
  exact lv_icmp_eq C.1 C.2.1 hd ht (fun h => kt ((i32_eq ha hb).mp h) p l e s m args below meth c H locs ls C X hl) (fun h => kf (fun q => h ((i32_eq ha hb).mpr q)) p l e s m args below meth c H locs ls C X hl)
theorem p_if_ne {G : GX} {M : MI} {pc : Nat} {L : LL} {st : List Value} {σ σ' : SG} {r : Option Value} {a : Int} (ha : inR a) {off : Int} (tgt : Nat) (hd : decode M.2.1 pc = .ok (.ifCond .ne off, 3)) (ht : (pc : Int) + off = (tgt : Int)) (kt : ¬ a = 0 → Rn G M tgt L st σ r σ') (kf : a = 0 → Rn G M (pc + 3) L st σ r σ') : Rn G M pc L (vi a :: st) σ r σ' := by
  intro p l e s m args below meth c H locs ls C X hl
  exact lv_if_ne C.1 C.2.1 hd ht (fun h => kt (fun q => h ((i32_eq ha inR0).mpr q)) p l e s m args below meth c H locs ls C X hl) (fun h => kf ((i32_eq ha inR0).mp h) p l e s m args below meth c H locs ls C X hl)
theorem p_icmp_ne {G : GX} {M : MI} {pc : Nat} {L : LL} {st : List Value} {σ σ' : SG} {r : Option Value} {a b : Int} (ha : inR a) (hb : inR b) {off : Int} (tgt : Nat) (hd : decode M.2.1 pc = .ok (.if_icmp .ne off, 3)) (ht : (pc : Int) + off = (tgt : Int)) (kt : ¬ a = b → Rn G M tgt L st σ r σ') (kf : a = b → Rn G M (pc + 3) L st σ r σ') : Rn G M pc L (vi b :: vi a :: st) σ r σ' := by
  intro p l e s m args below meth c H locs ls C X hl
  exact lv_icmp_ne C.1 C.2.1 hd ht (fun h => kt (fun q => h ((i32_eq ha hb).mpr q)) p l e s m args below meth c H locs ls C X hl) (fun h => kf ((i32_eq ha hb).mp h) p l e s m args below meth c H locs ls C X hl)
theorem p_if_lt {G : GX} {M : MI} {pc : Nat} {L : LL} {st : List Value} {σ σ' : SG} {r : Option Value} {a : Int} (ha : inR a) {off : Int} (tgt : Nat) (hd : decode M.2.1 pc = .ok (.ifCond .lt off, 3)) (ht : (pc : Int) + off = (tgt : Int)) (kt : a < 0 → Rn G M tgt L st σ r σ') (kf : ¬ a < 0 → Rn G M (pc + 3) L st σ r σ') : Rn G M pc L (vi a :: st) σ r σ' := by
  intro p l e s m args below meth c H locs ls C X hl
  exact lv_if_lt C.1 C.2.1 hd ht (fun h => kt ((i32_lt ha inR0).mp h) p l e s m args below meth c H locs ls C X hl) (fun h => kf (fun q => h ((i32_lt ha inR0).mpr q)) p l e s m args below meth c H locs ls C X hl)
theorem p_icmp_lt {G : GX} {M : MI} {pc : Nat} {L : LL} {st : List Value} {σ σ' : SG} {r : Option Value} {a b : Int} (ha : inR a) (hb : inR b) {off : Int} (tgt : Nat) (hd : decode M.2.1 pc = .ok (.if_icmp .lt off, 3)) (ht : (pc : Int) + off = (tgt : Int)) (kt : a < b → Rn G M tgt L st σ r σ') (kf : ¬ a < b → Rn G M (pc + 3) L st σ r σ') : Rn G M pc L (vi b :: vi a :: st) σ r σ' := by
  intro p l e s m args below meth c H locs ls C X hl
  exact lv_icmp_lt C.1 C.2.1 hd ht (fun h => kt ((i32_lt ha hb).mp h) p l e s m args below meth c H locs ls C X hl) (fun h => kf (fun q => h ((i32_lt ha hb).mpr q)) p l e s m args below meth c H locs ls C X hl)
theorem p_if_ge {G : GX} {M : MI} {pc : Nat} {L : LL} {st : List Value} {σ σ' : SG} {r : Option Value} {a : Int} (ha : inR a) {off : Int} (tgt : Nat) (hd : decode M.2.1 pc = .ok (.ifCond .ge off, 3)) (ht : (pc : Int) + off = (tgt : Int)) (kt : 0 ≤ a → Rn G M tgt L st σ r σ') (kf : ¬ 0 ≤ a → Rn G M (pc + 3) L st σ r σ') : Rn G M pc L (vi a :: st) σ r σ' := by
  intro p l e s m args below meth c H locs ls C X hl
  exact lv_if_ge C.1 C.2.1 hd ht (fun h => kt ((i32_le inR0 ha).mp h) p l e s m args below meth c H locs ls C X hl) (fun h => kf (fun q => h ((i32_le inR0 ha).mpr q)) p l e s m args below meth c H locs ls C X hl)
theorem p_icmp_ge {G : GX} {M : MI} {pc : Nat} {L : LL} {st : List Value} {σ σ' : SG} {r : Option Value} {a b : Int} (ha : inR a) (hb : inR b) {off : Int} (tgt : Nat) (hd : decode M.2.1 pc = .ok (.if_icmp .ge off, 3)) (ht : (pc : Int) + off = (tgt : Int)) (kt : b ≤ a → Rn G M tgt L st σ r σ') (kf : ¬ b ≤ a → Rn G M (pc + 3) L st σ r σ') : Rn G M pc L (vi b :: vi a :: st) σ r σ' := by
  intro p l e s m args below meth c H locs ls C X hl
  exact lv_icmp_ge C.1 C.2.1 hd ht (fun h => kt ((i32_le hb ha).mp h) p l e s m args below meth c H locs ls C X hl) (fun h => kf (fun q => h ((i32_le hb ha).mpr q)) p l e s m args below meth c H locs ls C X hl)
theorem p_if_gt {G : GX} {M : MI} {pc : Nat} {L : LL} {st : List Value} {σ σ' : SG} {r : Option Value} {a : Int} (ha : inR a) {off : Int} (tgt : Nat) (hd : decode M.2.1 pc = .ok (.ifCond .gt off, 3)) (ht : (pc : Int) + off = (tgt : Int)) (kt : 0 < a → Rn G M tgt L st σ r σ') (kf : ¬ 0 < a → Rn G M (pc + 3) L st σ r σ') : Rn G M pc L (vi a :: st) σ r σ' := by
  intro p l e s m args below meth c H locs ls C X hl
  exact lv_if_gt C.1 C.2.1 hd ht (fun h => kt ((i32_lt inR0 ha).mp h) p l e s m args below meth c H locs ls C X hl) (fun h => kf (fun q => h ((i32_lt inR0 ha).mpr q)) p l e s m args below meth c H locs ls C X hl)
theorem p_icmp_gt {G : GX} {M : MI} {pc : Nat} {L : LL} {st : List Value} {σ σ' : SG} {r : Option Value} {a b : Int} (ha : inR a) (hb : inR b) {off : Int} (tgt : Nat) (hd : decode M.2.1 pc = .ok (.if_icmp .gt off, 3)) (ht : (pc : Int) + off = (tgt : Int)) (kt : b < a → Rn G M tgt L st σ r σ') (kf : ¬ b < a → Rn G M (pc + 3) L st σ r σ') : Rn G M pc L (vi b :: vi a :: st) σ r σ' := by
  intro p l e s m args below meth c H locs ls C X hl
  exact lv_icmp_gt C.1 C.2.1 hd ht (fun h => kt ((i32_lt hb ha).mp h) p l e s m args below meth c H locs ls C X hl) (fun h => kf (fun q => h ((i32_lt hb ha).mpr q)) p l e s m args below meth c H locs ls C X hl)
theorem p_if_le {G : GX} {M : MI} {pc : Nat} {L : LL} {st : List Value} {σ σ' : SG} {r : Option Value} {a : Int} (ha : inR a) {off : Int} (tgt : Nat) (hd : decode M.2.1 pc = .ok (.ifCond .le off, 3)) (ht : (pc : Int) + off = (tgt : Int)) (kt : a ≤ 0 → Rn G M tgt L st σ r σ') (kf : ¬ a ≤ 0 → Rn G M (pc + 3) L st σ r σ') : Rn G M pc L (vi a :: st) σ r σ' := by
  intro p l e s m args below meth c H locs ls C X hl
  exact lv_if_le C.1 C.2.1 hd ht (fun h => kt ((i32_le ha inR0).mp h) p l e s m args below meth c H locs ls C X hl) (fun h => kf (fun q => h ((i32_le ha inR0).mpr q)) p l e s m args below meth c H locs ls C X hl)
theorem p_icmp_le {G : GX} {M : MI} {pc : Nat} {L : LL} {st : List Value} {σ σ' : SG} {r : Option Value} {a b : Int} (ha : inR a) (hb : inR b) {off : Int} (tgt : Nat) (hd : decode M.2.1 pc = .ok (.if_icmp .le off, 3)) (ht : (pc : Int) + off = (tgt : Int)) (kt : a ≤ b → Rn G M tgt L st σ r σ') (kf : ¬ a ≤ b → Rn G M (pc + 3) L st σ r σ') : Rn G M pc L (vi b :: vi a :: st) σ r σ' := by
  intro p l e s m args below meth c H locs ls C X hl
  exact lv_icmp_le C.1 C.2.1 hd ht (fun h => kt ((i32_le ha hb).mp h) p l e s m args below meth c H locs ls C X hl) (fun h => kf (fun q => h ((i32_le ha hb).mpr q)) p l e s m args below meth c H locs ls C X hl)
theorem p_goto {G : GX} {M : MI} {pc : Nat} {L : LL} {st : List Value} {σ σ' : SG} {r : Option Value} {off : Int} (tgt : Nat) (hd : decode M.2.1 pc = .ok (.goto off, 3)) (ht : (pc : Int) + off = (tgt : Int)) (k : Rn G M tgt L st σ r σ') : Rn G M pc L st σ r σ' := by
  intro p l e s m args below meth c H locs ls C X hl
  exact lv_goto C.1 C.2.1 hd ht (k p l e s m args below meth c H locs ls C X hl)
theorem p_tswI {G : GX} {M : MI} {pc : Nat} {L : LL} {st : List Value} {σ σ' : SG} {r : Option Value} {dflt lo hi off : Int} {offs : Array Int} {len : Nat} {a : Int} (ha : inR a) (q : Nat) (tgt : Nat) (hd : decode M.2.1 pc = .ok (.tableswitch dflt lo hi offs, len)) (hq : a = lo + (q : Int)) (hh : lo + (q : Int) ≤ hi) (ho : offs[q]? = some off) (ht : (pc : Int) + off = (tgt : Int)) (k : Rn G M tgt L st σ r σ') : Rn G M pc L (vi a :: st) σ r σ' := by
  intro p l e s m args below meth c H locs ls C X hl
  have ee := i32_toInt ha
  refine lv_tableIn C.1 C.2.1 hd (off := off) (tgt := tgt) (by rw [ee]; omega) (by rw [ee]; omega) ?_ ht (k p l e s m args below meth c H locs ls C X hl)
  rw [ee, show (a - lo).toNat = q by omega]
  exact ho
theorem p_tswO {G : GX} {M : MI} {pc : Nat} {L : LL} {st : List Value} {σ σ' : SG} {r : Option Value} {dflt lo hi : Int} {offs : Array Int} {len : Nat} {a : Int} (ha : inR a) (tgt : Nat) (hd : decode M.2.1 pc = .ok (.tableswitch dflt lo hi offs, len)) (hq : a < lo ∨ hi < a) (ht : (pc : Int) + dflt = (tgt : Int)) (k : Rn G M tgt L st σ r σ') : Rn G M pc L (vi a :: st) σ r σ' := by
  intro p l e s m args below meth c H locs ls C X hl
  exact lv_tableOut C.1 C.2.1 hd (by rw [i32_toInt ha]; exact hq) ht (k p l e s m args below meth c H locs ls C X hl)
theorem p_iret {G : GX} {M : MI} {pc : Nat} {L : LL} {st : List Value} {σ σ' : SG} {r : Option Value} {a : Int} (hr : M.2.2.2.1 = some .int) (hd : decode M.2.1 pc = .ok (.ireturn, 1)) (hv : some (vi a) = r) (hs : σ = σ') : Rn G M pc L [vi a] σ r σ' := by
  intro p l e s m args below meth c H locs ls C X hl
  subst hv; subst hs
  exact W.iret C.1 C.2.1 (C.2.2.1.trans hr) (fun t ht hW => ⟨rfl, by rw [ht]; exact X.1, X.2.F ht⟩) X.2.2.2 hd C.2.2.2.2.2.2.1
theorem p_zret {G : GX} {M : MI} {pc : Nat} {L : LL} {st : List Value} {σ σ' : SG} {r : Option Value} {a : Int} {ty : FieldType} (hr : M.2.2.2.1 = some ty) (hn : narrow ty (vi a) = vi a) (hd : decode M.2.1 pc = .ok (.ireturn, 1)) (hv : some (vi a) = r) (hs : σ = σ') : Rn G M pc L [vi a] σ r σ' := by
  intro p l e s m args below meth c H locs ls C X hl
  subst hv; subst hs
  exact W.zret C.1 C.2.1 (C.2.2.1.trans hr) hn (fun t ht hW => ⟨rfl, by rw [ht]; exact X.1, X.2.F ht⟩) X.2.2.2 hd C.2.2.2.2.2.2.1
theorem p_lret {G : GX} {M : MI} {pc : Nat} {L : LL} {st : List Value} {σ σ' : SG} {r : Option Value} {a : Int} (hr : M.2.2.2.1 = some .long) (hd : decode M.2.1 pc = .ok (.lreturn, 1)) (hv : some (vl a) = r) (hs : σ = σ') : Rn G M pc L [vl a] σ r σ' := by
  intro p l e s m args below meth c H locs ls C X hl
  subst hv; subst hs
  exact W.lret C.1 C.2.1 (C.2.2.1.trans hr) (fun t ht hW => ⟨rfl, by rw [ht]; exact X.1, X.2.F ht⟩) X.2.2.2 hd C.2.2.2.2.2.2.1
theorem p_vret {G : GX} {M : MI} {pc : Nat} {L : LL} {st : List Value} {σ σ' : SG} {r : Option Value} (hr : M.2.2.2.1 = none) (hd : decode M.2.1 pc = .ok (.return_, 1)) (hv : none = r) (hs : σ = σ') : Rn G M pc L [] σ r σ' := by
  intro p l e s m args below meth c H locs ls C X hl
  subst hv; subst hs
  exact W.vret C.1 C.2.1 (C.2.2.1.trans hr) (fun t ht hW => ⟨rfl, by rw [ht]; exact X.1, X.2.F ht⟩) X.2.2.2 hd C.2.2.2.2.2.2.1
theorem p_aret {G : GX} {M : MI} {pc : Nat} {L : LL} {st : List Value} {σ σ' : SG} {r : Option Value} {a : Nat} {n : String} (hr : M.2.2.2.1 = some (.object n)) (hd : decode M.2.1 pc = .ok (.areturn, 1)) (hv : some (.ref a) = r) (hs : σ = σ') : Rn G M pc L [.ref a] σ r σ' := by
  intro p l e s m args below meth c H locs ls C X hl
  subst hv; subst hs
  exact W.aret C.1 C.2.1 (C.2.2.1.trans hr) (Or.inl ⟨_, rfl⟩) (Or.inr ⟨_, rfl⟩) (fun t ht hW => ⟨rfl, by rw [ht]; exact X.1, X.2.F ht⟩) X.2.2.2 hd C.2.2.2.2.2.2.1
def FL (own : String) (ix ci k : Nat) : Prop := ∃ (C : String) (T : u_T) (N : Nat), vwCl[ci]? = some (C, T, N) ∧ k < N ∧ (∀ w ∈ u_ws C T N, w ∈ wsL) ∧ Cond.fieldLink own ix (T k).1 (T k).2.1 (T k).2.2.1 ∈ wsL
def FW (own : String) (ix ci k : Nat) (ty : FieldType) : Prop := ∃ (C : String) (T : u_T) (N : Nat) (ty0 : Nat → FieldType), vwCl[ci]? = some (C, T, N) ∧ k < N ∧ (∀ w ∈ u_ws C T N, w ∈ wsL) ∧ Cond.fieldLink own ix (T k).1 (T k).2.1 (T k).2.2.1 ∈ wsL ∧ (∀ k, k < N → parseFieldDescriptor (T k).2.2.1 = some (ty0 k)) ∧ (∀ a, a < N → ∀ b, b < N → a ≠ b → (T a).2.1 ≠ (T b).2.1) ∧ (T k).2.2.2 = false ∧ parseFieldDescriptor (T k).2.2.1 = some ty
def fld (σ : SG) (i ci k : Nat) (v : Value) : Prop := i < NC ∧ ∃ fs, σ i = .inr (ci, fs) ∧ fs[k]? = some v
def put (σ : SG) (i ci k : Nat) (v : Value) (σ1 : SG) : Prop := i < NC ∧ ∃ fs, σ i = .inr (ci, fs) ∧ k < fs.length ∧ va_up σ i (.inr (ci, fs.set k v)) = σ1
theorem p_get {G : GX} {M : MI} {pc : Nat} {L : LL} {st : List Value} {σ σ' : SG} {r : Option Value} {ix ci k i : Nat} {v : Value} (hf : FL M.1.cls ix ci k) (hσ : fld σ i ci k v) (hd : decode M.2.1 pc = .ok (.getfield ix, 3)) (kk : Rn G M (pc + 3) L (v :: st) σ r σ') : Rn G M pc L (rf G i :: st) σ r σ' := by
  intro p l e s m args below meth c H locs ls C X hl
  obtain ⟨Cn, T, N, h1, h2, h3, h4⟩ := hf
  obtain ⟨hi, fs, e1, e2⟩ := hσ
  exact va_get (D := G.1) (ci := ci) (v := v) (C := Cn) (T := T) (N := N) C.1 C.2.1 C.2.2.2.2.2.1 h3 C.2.2.2.2.1 C.2.2.2.2.2.2.2.1 X.1 i (by rw [wl_get G σ hi, e1]) h1 k h2 (C.2.2.2.2.2.1 _ h4) (fun _ h9 => h9) e2 hd (kk p l e s m args below meth c H locs ls C X hl)
theorem p_put {G : GX} {M : MI} {pc : Nat} {L : LL} {st : List Value} {σ σ' : SG} {r : Option Value} {σ1 : SG} {ix ci k i : Nat} {v : Value} {ty : FieldType} (hf : FW M.1.cls ix ci k ty) (hn : narrow ty v = v) (hfit : fits ty v = true) (hσ : put σ i ci k v σ1) (hd : decode M.2.1 pc = .ok (.putfield ix, 3)) (kk : Rn G M (pc + 3) L st σ1 r σ') : Rn G M pc L (v :: rf G i :: st) σ r σ' := by
  intro p l e s m args below meth c H locs ls C X hl
  obtain ⟨Cn, T, N, ty0, h1, h2, h3, h4, h5, h6, h7, h8⟩ := hf
  obtain ⟨hi, fs, e1, e2, e3⟩ := hσ
  subst e3
  refine va_put (D := G.1) (ci := ci) (v := v) (ty := ty) (C := Cn) (T := T) (N := N) C.1 C.2.1 C.2.2.2.2.2.1 h3 ty0 h5 h6 C.2.2.2.2.1 C.2.2.2.2.2.2.2.1 X.1 (wl_D C.2.2.2.2.2.2.2.2.2 σ) X.2 i (by rw [wl_get G σ hi, e1]) h1 k h2 (C.2.2.2.2.2.1 _ h4) (fun _ h9 => h9) h7 h8 hn hfit e2 hd (fun H1 locs1 hP hD hS => ?_)
  have hP2 : va_P G.1 vwCl ((wl G σ).set i (ad G i, .inr (ci, fs.set k v))) H1 := hP
  rw [wl_set G σ hi] at hP2
  exact kk p l e s m args below meth c H1 locs1 ls C ⟨hP2, hS⟩ hl
def ia (G : GX) (n : Nat) (f : Nat → Int) : va_E := .inl (G.2.1.1, n, .inl (fun k => if k < n then Int32.ofInt (f k) else 0))
def ja (G : GX) (n : Nat) (f : Nat → Int) : va_E := .inl (G.2.1.2.1, n, .inr (.inl (fun k => if k < n then Int64.ofInt (f k) else 0)))
def qa (G : GX) (n : Nat) (f : Nat → Option Nat) : va_E := .inl (G.2.1.2.2, n, .inr (.inr (.inr (.inr f))))
theorem i32_clamp {z : Int} {k : Nat} (hz : z = (k : Int)) (hk : k < 2147483648) : (Int32.ofInt z).toNatClampNeg = k := by
  subst hz
  rw [Int32.toNatClampNeg_ofInt_of_le (by omega) (by omega)]
  omega
theorem vp_in_k {z : Int} {k n : Nat} (hz : z = (k : Int)) (hk : k < n) (hn : n < 2147483648) : vp_in (Int32.ofInt z) n := by
  unfold vp_in
  rw [i32_clamp hz (by omega)]
  rintro (h | h)
  · have := (i32_lt (b := 0) (by constructor <;> omega) inR0).mp h
    omega
  · omega
def ald (G : GX) (σ : SG) (i n : Nat) (f : Nat → Int) : Prop := i < NC ∧ n < 2147483648 ∧ σ i = ia G n f
def jld (G : GX) (σ : SG) (i n : Nat) (f : Nat → Int) : Prop := i < NC ∧ n < 2147483648 ∧ σ i = ja G n f
def qld (G : GX) (σ : SG) (i n : Nat) (f : Nat → Option Nat) : Prop := i < NC ∧ n < 2147483648 ∧ σ i = qa G n f
theorem ia_set (G : GX) {n : Nat} {f : Nat → Int} {k : Nat} (hk : k < n) (x : Int) : (.inl (G.2.1.1, n, .inl (upd (fun k => if k < n then Int32.ofInt (f k) else 0) k (Int32.ofInt x))) : va_E) = ia G n (va_up f k x) := by
  unfold ia
  congr 4
  funext j
  by_cases e : j = k
  · subst e; simp [upd, va_up, hk]
  · simp [upd, va_up, e]
theorem ja_set (G : GX) {n : Nat} {f : Nat → Int} {k : Nat} (hk : k < n) (x : Int) : (.inl (G.2.1.2.1, n, .inr (.inl (vp_updL (fun k => if k < n then Int64.ofInt (f k) else 0) k (Int64.ofInt x)))) : va_E) = ja G n (va_up f k x) := by
  unfold ja
  congr 5
  funext j
  by_cases e : j = k
  · subst e; simp [vp_updL, va_up, hk]
  · simp [vp_updL, va_up, e]
theorem ia_congr (G : GX) {n : Nat} {f g : Nat → Int} (h : ∀ k, k < n → f k = g k) : ia G n f = ia G n g := by
  unfold ia
  congr 4
  funext j
  by_cases e : j < n
  · simp [e, h j e]
  · simp [e]
theorem ja_congr (G : GX) {n : Nat} {f g : Nat → Int} (h : ∀ k, k < n → f k = g k) : ja G n f = ja G n g := by
  unfold ja
  congr 5
  funext j
  by_cases e : j < n
  · simp [e, h j e]
  · simp [e]
theorem p_iald {G : GX} {M : MI} {pc : Nat} {L : LL} {st : List Value} {σ σ' : SG} {r : Option Value} {i n : Nat} {f : Nat → Int} {z : Int} (k : Nat) (hσ : ald G σ i n f) (hz : z = (k : Int)) (hk : k < n) (hd : decode M.2.1 pc = .ok (.iaload, 1)) (kk : Rn G M (pc + 1) L (vi (f k) :: st) σ r σ') : Rn G M pc L (vi z :: rf G i :: st) σ r σ' := by
  intro p l e s m args below meth c H locs ls C X hl
  obtain ⟨hi, hn, e1⟩ := hσ
  have h := kk p l e s m args below meth c H locs ls C X hl
  refine va_iald (D := G.1) C.1 C.2.1 C.2.2.2.2.2.2.2.1 X.1 i 0 (by rw [wl_get G σ hi, e1]; rfl) rfl (vp_in_k hz hk hn) hd ?_
  rw [i32_clamp hz (by omega), if_pos hk]
  exact h
theorem p_jald {G : GX} {M : MI} {pc : Nat} {L : LL} {st : List Value} {σ σ' : SG} {r : Option Value} {i n : Nat} {f : Nat → Int} {z : Int} (k : Nat) (hσ : jld G σ i n f) (hz : z = (k : Int)) (hk : k < n) (hd : decode M.2.1 pc = .ok (.laload, 1)) (kk : Rn G M (pc + 1) L (vl (f k) :: st) σ r σ') : Rn G M pc L (vi z :: rf G i :: st) σ r σ' := by
  intro p l e s m args below meth c H locs ls C X hl
  obtain ⟨hi, hn, e1⟩ := hσ
  have h := kk p l e s m args below meth c H locs ls C X hl
  refine va_lald (D := G.1) C.1 C.2.1 C.2.2.2.2.2.2.2.1 X.1 i 1 (by rw [wl_get G σ hi, e1]; rfl) rfl (vp_in_k hz hk hn) hd ?_
  rw [i32_clamp hz (by omega), if_pos hk]
  exact h
theorem p_qald {G : GX} {M : MI} {pc : Nat} {L : LL} {st : List Value} {σ σ' : SG} {r : Option Value} {i n : Nat} {f : Nat → Option Nat} {z : Int} {w : Nat} (k : Nat) (hσ : qld G σ i n f) (hz : z = (k : Int)) (hk : k < n) (hw : f k = some (ad G w)) (hd : decode M.2.1 pc = .ok (.aaload, 1)) (kk : Rn G M (pc + 1) L (rf G w :: st) σ r σ') : Rn G M pc L (vi z :: rf G i :: st) σ r σ' := by
  intro p l e s m args below meth c H locs ls C X hl
  obtain ⟨hi, hn, e1⟩ := hσ
  have h := kk p l e s m args below meth c H locs ls C X hl
  refine va_aldq (D := G.1) C.1 C.2.1 C.2.2.2.2.2.2.2.1 X.1 i 2 (by rw [wl_get G σ hi, e1]; rfl) rfl (vp_in_k hz hk hn) hd ?_
  rw [i32_clamp hz (by omega), hw]
  exact h
theorem p_iast {G : GX} {M : MI} {pc : Nat} {L : LL} {st : List Value} {σ σ' : SG} {r : Option Value} {σ1 : SG} {i n : Nat} {f : Nat → Int} {z x : Int} (k : Nat) (hσ : ald G σ i n f) (hz : z = (k : Int)) (hk : k < n) (hs : va_up σ i (ia G n (va_up f k x)) = σ1) (hd : decode M.2.1 pc = .ok (.iastore, 1)) (kk : Rn G M (pc + 1) L st σ1 r σ') : Rn G M pc L (vi x :: vi z :: rf G i :: st) σ r σ' := by
  intro p l e s m args below meth c H locs ls C X hl
  obtain ⟨hi, hn, e1⟩ := hσ
  subst hs
  refine va_iast (D := G.1) C.1 C.2.1 C.2.2.2.2.2.2.2.1 X.1 (wl_D C.2.2.2.2.2.2.2.2.2 σ) X.2 i 0 (by rw [wl_get G σ hi, e1]; rfl) rfl (vp_in_k hz hk hn) hd (fun H1 locs1 hP hD hS => ?_)
  rw [i32_clamp hz (by omega), ia_set G hk] at hP
  have hP2 : va_P G.1 vwCl ((wl G σ).set i (ad G i, ia G n (va_up f k x))) H1 := hP
  rw [wl_set G σ hi] at hP2
  exact kk p l e s m args below meth c H1 locs1 ls C ⟨hP2, hS⟩ hl
theorem p_jast {G : GX} {M : MI} {pc : Nat} {L : LL} {st : List Value} {σ σ' : SG} {r : Option Value} {σ1 : SG} {i n : Nat} {f : Nat → Int} {z x : Int} (k : Nat) (hσ : jld G σ i n f) (hz : z = (k : Int)) (hk : k < n) (hs : va_up σ i (ja G n (va_up f k x)) = σ1) (hd : decode M.2.1 pc = .ok (.lastore, 1)) (kk : Rn G M (pc + 1) L st σ1 r σ') : Rn G M pc L (vl x :: vi z :: rf G i :: st) σ r σ' := by
  intro p l e s m args below meth c H locs ls C X hl
  obtain ⟨hi, hn, e1⟩ := hσ
  subst hs
  refine va_last (D := G.1) C.1 C.2.1 C.2.2.2.2.2.2.2.1 X.1 (wl_D C.2.2.2.2.2.2.2.2.2 σ) X.2 i 1 (by rw [wl_get G σ hi, e1]; rfl) rfl (vp_in_k hz hk hn) hd (fun H1 locs1 hP hD hS => ?_)
  rw [i32_clamp hz (by omega), ja_set G hk] at hP
  have hP2 : va_P G.1 vwCl ((wl G σ).set i (ad G i, ja G n (va_up f k x))) H1 := hP
  rw [wl_set G σ hi] at hP2
  exact kk p l e s m args below meth c H1 locs1 ls C ⟨hP2, hS⟩ hl
theorem p_ilen {G : GX} {M : MI} {pc : Nat} {L : LL} {st : List Value} {σ σ' : SG} {r : Option Value} {i n : Nat} {f : Nat → Int} (hσ : ald G σ i n f) (hd : decode M.2.1 pc = .ok (.arraylength, 1)) (kk : Rn G M (pc + 1) L (vi (n : Int) :: st) σ r σ') : Rn G M pc L (rf G i :: st) σ r σ' := by
  intro p l e s m args below meth c H locs ls C X hl
  obtain ⟨hi, hn, e1⟩ := hσ
  exact va_alen (D := G.1) (ty := .int) (v := Int32.ofInt n) C.1 C.2.1 C.2.2.2.2.2.2.2.1 X.1 i 0 (by rw [wl_get G σ hi, e1]; rfl) rfl Int32.ofInt_eq_ofNat.symm hd (kk p l e s m args below meth c H locs ls C X hl)
theorem p_qlen {G : GX} {M : MI} {pc : Nat} {L : LL} {st : List Value} {σ σ' : SG} {r : Option Value} {i n : Nat} {f : Nat → Option Nat} (hσ : qld G σ i n f) (hd : decode M.2.1 pc = .ok (.arraylength, 1)) (kk : Rn G M (pc + 1) L (vi (n : Int) :: st) σ r σ') : Rn G M pc L (rf G i :: st) σ r σ' := by
  intro p l e s m args below meth c H locs ls C X hl
  obtain ⟨hi, hn, e1⟩ := hσ
  exact va_alen (D := G.1) (ty := .object "FlockCounts$Sheet") (v := Int32.ofInt n) C.1 C.2.1 C.2.2.2.2.2.2.2.1 X.1 i 2 (by rw [wl_get G σ hi, e1]; rfl) rfl Int32.ofInt_eq_ofNat.symm hd (kk p l e s m args below meth c H locs ls C X hl)
theorem p_gsABOVE {G : GX} {M : MI} {pc : Nat} {L : LL} {st : List Value} {σ σ' : SG} {r : Option Value} {ix : Nat} (hw : Cond.fieldLink M.1.cls ix "FlockCounts$Kinds" "ABOVE" "[I" ∈ wsL) (hd : decode M.2.1 pc = .ok (.getstatic ix, 3)) (k : Rn G M (pc + 3) L (.ref (aA G) :: st) σ r σ') : Rn G M pc L (st) σ r σ' := by
  intro p l e s m args below meth c H locs ls C X hl
  exact va_gets C.1 C.2.1 C.2.2.2.2.2.2.2.2.1.1 X.2 C.2.2.2.2.1 (C.2.2.2.2.2.1 _ hw) (fun _ h => h) hd (k p l e s m args below meth c H locs ls C X hl)
theorem p_ldABOVE {G : GX} {M : MI} {pc : Nat} {L : LL} {st : List Value} {σ σ' : SG} {r : Option Value} {z : Int} (k : Nat) (hz : z = (k : Int)) (hk : k < 6) (hd : decode M.2.1 pc = .ok (.iaload, 1)) (kk : Rn G M (pc + 1) L (fA k :: st) σ r σ') : Rn G M pc L (vi z :: .ref (aA G) :: st) σ r σ' := by
  intro p l e s m args below meth c H locs ls C X hl
  exact va_ti C.1 C.2.1 C.2.2.2.2.2.2.2.2.1.2.2.2.1 X.2 (vp_in_k hz hk (by omega)) (v := fA k) (by rw [i32_clamp hz (by omega)]) hd (kk p l e s m args below meth c H locs ls C X hl)
theorem p_gsWAKES {G : GX} {M : MI} {pc : Nat} {L : LL} {st : List Value} {σ σ' : SG} {r : Option Value} {ix : Nat} (hw : Cond.fieldLink M.1.cls ix "FlockCounts$Kinds" "WAKES" "[I" ∈ wsL) (hd : decode M.2.1 pc = .ok (.getstatic ix, 3)) (k : Rn G M (pc + 3) L (.ref (aW G) :: st) σ r σ') : Rn G M pc L (st) σ r σ' := by
  intro p l e s m args below meth c H locs ls C X hl
  exact va_gets C.1 C.2.1 C.2.2.2.2.2.2.2.2.1.2.1 X.2 C.2.2.2.2.1 (C.2.2.2.2.2.1 _ hw) (fun _ h => h) hd (k p l e s m args below meth c H locs ls C X hl)
theorem p_ldWAKES {G : GX} {M : MI} {pc : Nat} {L : LL} {st : List Value} {σ σ' : SG} {r : Option Value} {z : Int} (k : Nat) (hz : z = (k : Int)) (hk : k < 6) (hd : decode M.2.1 pc = .ok (.iaload, 1)) (kk : Rn G M (pc + 1) L (fW k :: st) σ r σ') : Rn G M pc L (vi z :: .ref (aW G) :: st) σ r σ' := by
  intro p l e s m args below meth c H locs ls C X hl
  exact va_ti C.1 C.2.1 C.2.2.2.2.2.2.2.2.1.2.2.2.2.1 X.2 (vp_in_k hz hk (by omega)) (v := fW k) (by rw [i32_clamp hz (by omega)]) hd (kk p l e s m args below meth c H locs ls C X hl)
theorem p_gsTIRES {G : GX} {M : MI} {pc : Nat} {L : LL} {st : List Value} {σ σ' : SG} {r : Option Value} {ix : Nat} (hw : Cond.fieldLink M.1.cls ix "FlockCounts$Kinds" "TIRES" "[I" ∈ wsL) (hd : decode M.2.1 pc = .ok (.getstatic ix, 3)) (k : Rn G M (pc + 3) L (.ref (aT G) :: st) σ r σ') : Rn G M pc L (st) σ r σ' := by
  intro p l e s m args below meth c H locs ls C X hl
  exact va_gets C.1 C.2.1 C.2.2.2.2.2.2.2.2.1.2.2.1 X.2 C.2.2.2.2.1 (C.2.2.2.2.2.1 _ hw) (fun _ h => h) hd (k p l e s m args below meth c H locs ls C X hl)
theorem p_ldTIRES {G : GX} {M : MI} {pc : Nat} {L : LL} {st : List Value} {σ σ' : SG} {r : Option Value} {z : Int} (k : Nat) (hz : z = (k : Int)) (hk : k < 6) (hd : decode M.2.1 pc = .ok (.iaload, 1)) (kk : Rn G M (pc + 1) L (fT k :: st) σ r σ') : Rn G M pc L (vi z :: .ref (aT G) :: st) σ r σ' := by
  intro p l e s m args below meth c H locs ls C X hl
  exact va_ti C.1 C.2.1 C.2.2.2.2.2.2.2.2.1.2.2.2.2.2.1 X.2 (vp_in_k hz hk (by omega)) (v := fT k) (by rw [i32_clamp hz (by omega)]) hd (kk p l e s m args below meth c H locs ls C X hl)
theorem p_gsCS {G : GX} {M : MI} {pc : Nat} {L : LL} {st : List Value} {σ σ' : SG} {r : Option Value} {ix : Nat} (hw : Cond.fieldLink M.1.cls ix "java/lang/String" "COMPACT_STRINGS" "Z" ∈ wsL) (hd : decode M.2.1 pc = .ok (.getstatic ix, 3)) (k : Rn G M (pc + 3) L (vi 1 :: st) σ r σ') : Rn G M pc L (st) σ r σ' := by
  intro p l e s m args below meth c H locs ls C X hl
  exact va_gets C.1 C.2.1 C.2.2.2.2.2.2.2.2.1.2.2.2.2.2.2.1 X.2 C.2.2.2.2.1 (C.2.2.2.2.2.1 _ hw) (fun _ h => h) hd (k p l e s m args below meth c H locs ls C X hl)
theorem p_gsSF {G : GX} {M : MI} {pc : Nat} {L : LL} {st : List Value} {σ σ' : SG} {r : Option Value} {ix : Nat} (hw : Cond.fieldLink M.1.cls ix "jdk/internal/util/Preconditions" "SIOOBE_FORMATTER" "Ljava/util/function/BiFunction;" ∈ wsL) (hd : decode M.2.1 pc = .ok (.getstatic ix, 3)) (k : ∀ v : Value, (v = .null ∨ ∃ a, v = .ref a) → Rn G M (pc + 3) L (v :: st) σ r σ') : Rn G M pc L st σ r σ' := by
  intro p l e s m args below meth c H locs ls C X hl
  rcases C.2.2.2.2.2.2.2.2.1.2.2.2.2.2.2.2.1 with h | ⟨t, h⟩
  · exact va_gets C.1 C.2.1 h X.2 C.2.2.2.2.1 (C.2.2.2.2.2.1 _ hw) (fun _ h => h) hd (k _ (Or.inl rfl) p l e s m args below meth c H locs ls C X hl)
  · exact va_gets C.1 C.2.1 h X.2 C.2.2.2.2.1 (C.2.2.2.2.2.1 _ hw) (fun _ h => h) hd (k _ (Or.inr ⟨_, rfl⟩) p l e s m args below meth c H locs ls C X hl)
theorem p_strV {G : GX} {M : MI} {pc : Nat} {L : LL} {st : List Value} {σ σ' : SG} {r : Option Value} {ix i : Nat} (hi : i < 12) (hw : Cond.fieldLink M.1.cls ix "java/lang/String" "value" "[B" ∈ wsL) (hd : decode M.2.1 pc = .ok (.getfield ix, 3)) (k : Rn G M (pc + 3) L (.ref (adV G i) :: st) σ r σ') : Rn G M pc L (.ref (adK G i) :: st) σ r σ' := by
  intro p l e s m args below meth c H locs ls C X hl
  exact vk_getf C.1 C.2.1 (C.2.2.2.2.2.2.2.2.1.2.2.2.2.2.2.2.2.1.1 i hi).2.2.1 X.2 C.2.2.2.2.1 (C.2.2.2.2.2.1 _ hw) (fun _ h => h) hd (k p l e s m args below meth c H locs ls C X hl)
theorem p_strC {G : GX} {M : MI} {pc : Nat} {L : LL} {st : List Value} {σ σ' : SG} {r : Option Value} {ix i : Nat} (hi : i < 12) (hw : Cond.fieldLink M.1.cls ix "java/lang/String" "coder" "B" ∈ wsL) (hd : decode M.2.1 pc = .ok (.getfield ix, 3)) (k : Rn G M (pc + 3) L (vi 0 :: st) σ r σ') : Rn G M pc L (.ref (adK G i) :: st) σ r σ' := by
  intro p l e s m args below meth c H locs ls C X hl
  exact vk_getf C.1 C.2.1 (C.2.2.2.2.2.2.2.2.1.2.2.2.2.2.2.2.2.1.1 i hi).2.1 X.2 C.2.2.2.2.1 (C.2.2.2.2.2.1 _ hw) (fun _ h => h) hd (k p l e s m args below meth c H locs ls C X hl)
theorem p_strL {G : GX} {M : MI} {pc : Nat} {L : LL} {st : List Value} {σ σ' : SG} {r : Option Value} {i : Nat} (hi : i < 12) (hd : decode M.2.1 pc = .ok (.arraylength, 1)) (k : Rn G M (pc + 1) L (vi ((lenJ.getD i 0 : Nat) : Int) :: st) σ r σ') : Rn G M pc L (.ref (adV G i) :: st) σ r σ' := by
  intro p l e s m args below meth c H locs ls C X hl
  exact va_tlen C.1 C.2.1 (C.2.2.2.2.2.2.2.2.1.2.2.2.2.2.2.2.2.1.1 i hi).2.2.2 X.2 (v := Int32.ofInt ((lenJ.getD i 0 : Nat) : Int)) Int32.ofInt_eq_ofNat.symm hd (k p l e s m args below meth c H locs ls C X hl)
def chJ (i j : Nat) : Int := ((bytJ.getD i []).getD j 0).toInt
theorem lenJ_lt (i : Nat) : lenJ.getD i 0 < 7 := by
  by_cases h : i < 12
  · exact (show ∀ i, i < 12 → lenJ.getD i 0 < 7 by decide +kernel) i h
  · have : lenJ[i]? = none := by simp [lenJ]; omega
    simp [List.getD, this]
theorem p_strB {G : GX} {M : MI} {pc : Nat} {L : LL} {st : List Value} {σ σ' : SG} {r : Option Value} {i : Nat} {z : Int} (j : Nat) (hi : i < 12) (hz : z = (j : Int)) (hj : j < lenJ.getD i 0) (hd : decode M.2.1 pc = .ok (.baload, 1)) (k : Rn G M (pc + 1) L (vi (chJ i j) :: st) σ r σ') : Rn G M pc L (vi z :: .ref (adV G i) :: st) σ r σ' := by
  intro p l e s m args below meth c H locs ls C X hl
  have h7 := lenJ_lt i
  refine va_tb C.1 C.2.1 (C.2.2.2.2.2.2.2.2.1.2.2.2.2.2.2.2.2.1.1 i hi).2.2.2 X.2 (vp_in_k hz hj (by omega)) (v := vi (chJ i j)) ?_ hd (k p l e s m args below meth c H locs ls C X hl)
  rw [i32_clamp hz (by omega)]
  exact vi_any _
theorem p_mmax {G : GX} {M : MI} {pc : Nat} {L : LL} {st : List Value} {σ σ' : SG} {r : Option Value} {ix : Nat} {a b : Int} (ha : inR a) (hb : inR b) (hw : Cond.methodLink M.1.cls ix Lib.Math.max.name ∈ wsL) (hw2 : Cond.static Lib.Math.max.name ∈ wsL) (hw3 : Cond.initialized "java/lang/Math" ∈ wsL) (hw4 : Cond.code Lib.Math.max.name Lib.Math.max.code 2 (some .int) ∈ wsL) (hfr : 1 ≤ M.2.2.2.2.1) (hlo : (st.map fun v => v.category).sum + 13 ≤ M.2.2.2.2.2) (hd : decode M.2.1 pc = .ok (.invokestatic ix, 3)) (k : Rn G M (pc + 3) L (vi (if a < b then b else a) :: st) σ r σ') : Rn G M pc L (vi b :: vi a :: st) σ r σ' := by
  intro p l e s m args below meth c H locs ls C X hl
  have h := k p l e s m args below meth c H locs ls C X hl
  have e : vi (if a < b then b else a) = .int (if Int32.ofInt a < Int32.ofInt b then Int32.ofInt b else Int32.ofInt a) := by
    by_cases q : a < b
    · rw [if_pos q, if_pos ((i32_lt ha hb).mpr q)]; rfl
    · rw [if_neg q, if_neg (fun z => q ((i32_lt ha hb).mp z))]; rfl
  rw [e] at h
  exact va_mmax C.1 C.2.1 (by rw [C.2.2.2.1]; exact hl.1.symm) C.2.2.2.2.1 (C.2.2.2.2.2.1 _ hw) (C.2.2.2.2.2.1 _ hw2) (C.2.2.2.2.2.1 _ hw3) (C.2.2.2.2.2.1 _ hw4) hfr hlo (Nat.le_refl _) (Nat.le_refl _) hd h
theorem p_mmin {G : GX} {M : MI} {pc : Nat} {L : LL} {st : List Value} {σ σ' : SG} {r : Option Value} {ix : Nat} {a b : Int} (ha : inR a) (hb : inR b) (hw : Cond.methodLink M.1.cls ix Lib.Math.min.name ∈ wsL) (hw2 : Cond.static Lib.Math.min.name ∈ wsL) (hw3 : Cond.initialized "java/lang/Math" ∈ wsL) (hw4 : Cond.code Lib.Math.min.name Lib.Math.min.code 2 (some .int) ∈ wsL) (hfr : 1 ≤ M.2.2.2.2.1) (hlo : (st.map fun v => v.category).sum + 13 ≤ M.2.2.2.2.2) (hd : decode M.2.1 pc = .ok (.invokestatic ix, 3)) (k : Rn G M (pc + 3) L (vi (if b < a then b else a) :: st) σ r σ') : Rn G M pc L (vi b :: vi a :: st) σ r σ' := by
  intro p l e s m args below meth c H locs ls C X hl
  have h := k p l e s m args below meth c H locs ls C X hl
  have e : vi (if b < a then b else a) = .int (if Int32.ofInt b < Int32.ofInt a then Int32.ofInt b else Int32.ofInt a) := by
    by_cases q : b < a
    · rw [if_pos q, if_pos ((i32_lt hb ha).mpr q)]; rfl
    · rw [if_neg q, if_neg (fun z => q ((i32_lt hb ha).mp z))]; rfl
  rw [e] at h
  exact va_mmin C.1 C.2.1 (by rw [C.2.2.2.1]; exact hl.1.symm) C.2.2.2.2.1 (C.2.2.2.2.2.1 _ hw) (C.2.2.2.2.2.1 _ hw2) (C.2.2.2.2.2.1 _ hw3) (C.2.2.2.2.2.1 _ hw4) hfr hlo (Nat.le_refl _) (Nat.le_refl _) hd h
def ML (own : String) (ix : Nat) (y : MethodName) (n : Nat) : Prop := Cond.methodLink own ix y ∈ wsL ∧ Cond.instanceMethod y ∈ wsL ∧ Cond.selects y.cls y y ∈ wsL ∧ Cond.initialized y.cls ∈ wsL ∧ (y.cls ≠ "java/lang/invoke/MethodHandle" ∧ y.cls ≠ "java/lang/invoke/VarHandle" ∧ (parseMethodDescriptor y.desc).map (fun d => d.parameters.length) = some n)
def MS (own : String) (ix : Nat) (y : MethodName) (n : Nat) : Prop := Cond.methodLink own ix y ∈ wsL ∧ Cond.static y ∈ wsL ∧ Cond.initialized y.cls ∈ wsL ∧ (y.cls ≠ "java/lang/invoke/MethodHandle" ∧ y.cls ≠ "java/lang/invoke/VarHandle" ∧ (parseMethodDescriptor y.desc).map (fun d => d.parameters.length) = some n)
def MC (M2 : MI) : Prop := Cond.code M2.1 M2.2.1 M2.2.2.1 M2.2.2.2.1 ∈ wsL
def MR (M M2 : MI) : Prop := M2.2.2.2.2.1 + 1 ≤ M.2.2.2.2.1 ∧ 8 + (M2.2.2.1 + 11) + M2.2.2.2.2.2 ≤ M.2.2.2.2.2
theorem ML.good {own : String} {ix n : Nat} {y : MethodName} {M2 : MI} (h : ML own ix y n) (e : M2.1 = y) (hc : MC M2) : GoodIn wsL (wsV own ix y.cls y (Mws M2)) := by
  refine goodIn_sub (fun w hw => ?_) (List.all_eq_true.mpr fun w hw => List.all_eq_true.mp ws_good w ?_) <;>
  · rcases List.mem_append.mp hw with q | q
    · simp only [List.mem_cons, List.not_mem_nil, or_false] at q
      rcases q with rfl | rfl | rfl | rfl
      · exact h.1
      · exact h.2.1
      · exact h.2.2.1
      · exact h.2.2.2.1
    · exact (ws_in M2 M2 hc w q).1
theorem MS.good {own : String} {ix n : Nat} {y : MethodName} {M2 : MI} (h : MS own ix y n) (e : M2.1 = y) (hc : MC M2) : GoodIn wsL (va_wsS own ix y (Mws M2)) := by
  refine goodIn_sub (fun w hw => ?_) (List.all_eq_true.mpr fun w hw => List.all_eq_true.mp ws_good w ?_) <;>
  · rcases List.mem_append.mp hw with q | q
    · simp only [List.mem_cons, List.not_mem_nil, or_false] at q
      rcases q with rfl | rfl | rfl
      · exact h.1
      · exact h.2.1
      · exact h.2.2.1
    · exact (ws_in M2 M2 hc w q).1
theorem px_blind {G : GX} {σ : SG} {av : List Value} : FrameBlind (va_Pc av (PX G σ)) := fun a U g mk q => by
  obtain ⟨q0, q1, q2, q3⟩ := q
  exact ⟨q0, q1, va_K.moved (u := U) (U := U.calling g mk a) (Vm.Alike.refl U.vm) q2, CK.same (u := U) (U := U.calling g mk a) rfl q3⟩
theorem px_at {G : GX} {M : MI} {σ : SG} {p : Program} {s : State} {m : MethodId} {args : Array Value} {meth : Method} {c : Code} {H : Heap} {locs : List Loc} (C : CX G M p s m args meth c) (X : HX G s H locs σ) {U : State} (hU : U.heap = H) (hW : s.WarmedH U.vm) : PX G σ U :=
  ⟨by rw [hU]; exact X.1, va_K.moved hW.alike C.2.2.2.2.2.2.2.1, by rw [hU]; exact (CK.kept (C.2.2.2.2.2.2.2.2.1) X.2.2.1).warm hW⟩
/-- behind a call -/
theorem w_back {p : Program} {l : Launch} {e : Env} {R : Room} {s : State} {m : MethodId} {args : Array Value} {below : List Frame} {meth : Method} {c : Code} {H : Heap} {locs : List Loc} {cells slots pc : Nat} {Q : State → Prop} {ls : Array Slot} {st0 rest : List Value} {a : Array Value} {G : GX} {A0 : Nat → Prop} {H0 : Heap} {r1 : Option Value} {σ1 : SG}
    (hr : va_Run p l e R s m args below meth c H locs cells slots 0 0 (F0 m pc ls st0) rest (QX G r1 σ1 a) (AD G)) (hS : va_S A0 H0 H locs) (hA : ∀ q, AD G q → A0 q)
    (kk : ∀ (H1 : Heap) (locs1 : List Loc), va_P G.1 vwCl (wl G σ1) H1 → va_S A0 H0 H1 locs1 → W p l e R s m args below meth c H1 locs1 cells slots Q (F0 m (pc + 3) ls (r1.toList ++ rest))) : W p l e R s m args below meth c H locs cells slots Q (F0 m pc ls st0) := by
  intro T hT X
  obtain ⟨v, st₀, t, T', L, h0, X', hL, e1, e2, ⟨hv, hP, hz, hk⟩, stp⟩ := hr T hT X
  cases hv
  rw [h0] at hz hk
  obtain ⟨t2, a1, b1⟩ := kk T'.heap (locs ++ L) (by rw [e1]; exact hP)
    ⟨Nat.le_trans hS.1 (by rw [e1]; exact hz), fun q h1 h2 => by rw [e1, hk q (Nat.lt_of_lt_of_le h1 hS.1) (fun z => h2 (hA q z))]; exact hS.2.1 q h1 h2, fun q hq => by
      rcases List.mem_append.mp hq with h | h
      · exact hS.2.2 q h
      · exact hA _ (hL q h)⟩ T' rfl X'
  exact ⟨t2, stp t2 a1, b1⟩
theorem p_callVG {G : GX} {M : MI} {pc : Nat} {L : LL} {st : List Value} {σ σ' : SG} {r : Option Value} {M2 : MI} {ix n i ci : Nat} {As : List Value} {r1 : Option Value} {σ1 : SG} {st0 st1 : List Value} {fs : List Value} (hm : ML M.1.cls ix M2.1 n) (hc : MC M2) (hR : MR M M2) (hi : i < NC) (hσ : σ i = .inr (ci, fs)) (hci : ∃ T N, vwCl[ci]? = some (M2.1.cls, T, N)) (hn : As.length = n) (hw8 : (st.map fun v => v.category).sum ≤ 8) (hs0 : st0 = As.reverse ++ rf G i :: st) (hs1 : r1.toList ++ st = st1) (hd : decode M.2.1 pc = .ok (.invokevirtual ix, 3)) (he : Ev G M2 (rf G i :: As) σ r1 σ1) (k : Rn G M (pc + 3) L st1 σ1 r σ') : Rn G M pc L st0 σ r σ' := by
  intro p l e s m args below meth c H locs ls C X hl
  obtain ⟨T0, N0, hci⟩ := hci
  subst hs1
  have hrecv : ∃ cell : Cell, H[ad G i]? = some cell ∧ cell.vm.isStatics = false ∧ s.vm.findClass M2.1.cls = some cell.cls := va_recv C.2.2.2.2.2.2.2.1 X.1 (ci := ci) (q0 := i) hci (by rw [wl_get G σ hi, hσ])
  refine w_back (va_runV (As := As) (rest := st) ⟨C.1, C.2.1, C.2.2.2.1, C.2.2.2.2.1, C.2.2.2.2.2.1⟩ (he C.2.2.2.2.2.2.2.2.2 l) (cwV n C.2.2.2.2.2.1 (ML.good hm rfl hc) rfl rfl rfl ⟨rfl, hm.2.2.2.2⟩ hR) ⟨px_blind, hrecv, fun U hU hW => ⟨rfl, px_at C X hU hW⟩⟩ rfl hn hl.1 hs0 (lv_room hw8) hd ⟨Nat.le_refl _, Nat.le_refl _⟩) X.2 (fun q h => h) (fun H1 locs1 hP hS => ?_)
  exact k p l e s m args below meth c H1 locs1 ls C ⟨hP, hS⟩ hl
theorem p_callSG {G : GX} {M : MI} {pc : Nat} {L : LL} {st : List Value} {σ σ' : SG} {r : Option Value} {M2 : MI} {ix n : Nat} {As : List Value} {r1 : Option Value} {σ1 : SG} {st0 st1 : List Value} (hm : MS M.1.cls ix M2.1 n) (hc : MC M2) (hR : MR M M2) (hn : As.length = n) (hw8 : (st.map fun v => v.category).sum ≤ 8) (hs0 : st0 = As.reverse ++ st) (hs1 : r1.toList ++ st = st1) (hd : decode M.2.1 pc = .ok (.invokestatic ix, 3)) (he : Ev G M2 As σ r1 σ1) (k : Rn G M (pc + 3) L st1 σ1 r σ') : Rn G M pc L st0 σ r σ' := by
  intro p l e s m args below meth c H locs ls C X hl
  subst hs1
  refine w_back (va_runS (As := As) (rest := st) ⟨C.1, C.2.1, C.2.2.2.1, C.2.2.2.2.1, C.2.2.2.2.2.1⟩ (he C.2.2.2.2.2.2.2.2.2 l) (va_cwS n C.2.2.2.2.2.1 (MS.good hm rfl hc) rfl rfl rfl hm.2.2.2 hR) ⟨px_blind, fun U hU hW => ⟨rfl, px_at C X hU hW⟩⟩ rfl hn hl.1 hs0 (lv_room hw8) hd ⟨Nat.le_refl _, Nat.le_refl _⟩) X.2 (fun q h => h) (fun H1 locs1 hP hS => ?_)
  exact k p l e s m args below meth c H1 locs1 ls C ⟨hP, hS⟩ hl
theorem p_callKG {G : GX} {M : MI} {pc : Nat} {L : LL} {st : List Value} {σ σ' : SG} {r : Option Value} {M2 : MI} {ix n i : Nat} {As : List Value} {r1 : Option Value} {σ1 : SG} {st0 st1 : List Value} (hm : ML M.1.cls ix M2.1 n) (hc : MC M2) (hR : MR M M2) (hi : i < 12) (hcs : M2.1.cls = "java/lang/String") (hn : As.length = n) (hw8 : (st.map fun v => v.category).sum ≤ 8) (hs0 : st0 = As.reverse ++ .ref (adK G i) :: st) (hs1 : r1.toList ++ st = st1) (hd : decode M.2.1 pc = .ok (.invokevirtual ix, 3)) (he : Ev G M2 (.ref (adK G i) :: As) σ r1 σ1) (k : Rn G M (pc + 3) L st1 σ1 r σ') : Rn G M pc L st0 σ r σ' := by
  intro p l e s m args below meth c H locs ls C X hl
  subst hs1
  have hrecv : ∃ cell : Cell, H[adK G i]? = some cell ∧ cell.vm.isStatics = false ∧ s.vm.findClass M2.1.cls = some cell.cls := by rw [hcs]; exact vk_recv C.2.2.2.2.2.2.2.2.1.2.2.2.2.2.2.2.2.1 hi X.2
  refine w_back (va_runV (As := As) (rest := st) ⟨C.1, C.2.1, C.2.2.2.1, C.2.2.2.2.1, C.2.2.2.2.2.1⟩ (he C.2.2.2.2.2.2.2.2.2 l) (cwV n C.2.2.2.2.2.1 (ML.good hm rfl hc) rfl rfl rfl ⟨rfl, hm.2.2.2.2⟩ hR) ⟨px_blind, hrecv, fun U hU hW => ⟨rfl, px_at C X hU hW⟩⟩ rfl hn hl.1 hs0 (lv_room hw8) hd ⟨Nat.le_refl _, Nat.le_refl _⟩) X.2 (fun q h => h) (fun H1 locs1 hP hS => ?_)
  exact k p l e s m args below meth c H1 locs1 ls C ⟨hP, hS⟩ hl
def isO (σ : SG) (i : Nat) (cn : String) : Prop := i < NC ∧ ∃ ci fs T N, σ i = .inr (ci, fs) ∧ vwCl[ci]? = some (cn, T, N)
theorem p_cV0v {G : GX} {M : MI} {pc : Nat} {L : LL} {st : List Value} {σ σ' : SG} {r : Option Value} {M2 : MI} {ix i : Nat} {σ1 : SG} (hm : ML M.1.cls ix M2.1 0) (hc : MC M2) (hR : MR M M2) (hO : isO σ i M2.1.cls) (hw8 : (st.map fun v => v.category).sum ≤ 8) (hd : decode M.2.1 pc = .ok (.invokevirtual ix, 3)) (he : Ev G M2 (rf G i :: []) σ none σ1) (k : Rn G M (pc + 3) L st σ1 r σ') : Rn G M pc L (rf G i :: st) σ r σ' := by
  obtain ⟨hi, ci, fs, T, N, h1, h2⟩ := hO
  exact p_callVG hm hc hR hi h1 ⟨T, N, h2⟩ rfl hw8 rfl rfl hd he k
theorem p_cS0v {G : GX} {M : MI} {pc : Nat} {L : LL} {st : List Value} {σ σ' : SG} {r : Option Value} {M2 : MI} {ix : Nat} {σ1 : SG} (hm : MS M.1.cls ix M2.1 0) (hc : MC M2) (hR : MR M M2) (hw8 : (st.map fun v => v.category).sum ≤ 8) (hd : decode M.2.1 pc = .ok (.invokestatic ix, 3)) (he : Ev G M2 [] σ none σ1) (k : Rn G M (pc + 3) L st σ1 r σ') : Rn G M pc L (st) σ r σ' := p_callSG hm hc hR rfl hw8 rfl rfl hd he k
theorem p_cK0v {G : GX} {M : MI} {pc : Nat} {L : LL} {st : List Value} {σ σ' : SG} {r : Option Value} {M2 : MI} {ix i : Nat} {σ1 : SG} (hi : i < 12) (hm : ML M.1.cls ix M2.1 0) (hc : MC M2) (hR : MR M M2) (hcs : M2.1.cls = "java/lang/String") (hw8 : (st.map fun v => v.category).sum ≤ 8) (hd : decode M.2.1 pc = .ok (.invokevirtual ix, 3)) (he : Ev G M2 (.ref (adK G i) :: []) σ none σ1) (k : Rn G M (pc + 3) L st σ1 r σ') : Rn G M pc L (.ref (adK G i) :: st) σ r σ' := p_callKG hm hc hR hi hcs rfl hw8 rfl rfl hd he k
theorem p_cV0r {G : GX} {M : MI} {pc : Nat} {L : LL} {st : List Value} {σ σ' : SG} {r : Option Value} {M2 : MI} {ix i : Nat} {v1 : Value} {σ1 : SG} (hm : ML M.1.cls ix M2.1 0) (hc : MC M2) (hR : MR M M2) (hO : isO σ i M2.1.cls) (hw8 : (st.map fun v => v.category).sum ≤ 8) (hd : decode M.2.1 pc = .ok (.invokevirtual ix, 3)) (he : Ev G M2 (rf G i :: []) σ (some v1) σ1) (k : Rn G M (pc + 3) L (v1 :: st) σ1 r σ') : Rn G M pc L (rf G i :: st) σ r σ' := by
  obtain ⟨hi, ci, fs, T, N, h1, h2⟩ := hO
  exact p_callVG hm hc hR hi h1 ⟨T, N, h2⟩ rfl hw8 rfl rfl hd he k
theorem p_cS0r {G : GX} {M : MI} {pc : Nat} {L : LL} {st : List Value} {σ σ' : SG} {r : Option Value} {M2 : MI} {ix : Nat} {v1 : Value} {σ1 : SG} (hm : MS M.1.cls ix M2.1 0) (hc : MC M2) (hR : MR M M2) (hw8 : (st.map fun v => v.category).sum ≤ 8) (hd : decode M.2.1 pc = .ok (.invokestatic ix, 3)) (he : Ev G M2 [] σ (some v1) σ1) (k : Rn G M (pc + 3) L (v1 :: st) σ1 r σ') : Rn G M pc L (st) σ r σ' := p_callSG hm hc hR rfl hw8 rfl rfl hd he k
theorem p_cK0r {G : GX} {M : MI} {pc : Nat} {L : LL} {st : List Value} {σ σ' : SG} {r : Option Value} {M2 : MI} {ix i : Nat} {v1 : Value} {σ1 : SG} (hi : i < 12) (hm : ML M.1.cls ix M2.1 0) (hc : MC M2) (hR : MR M M2) (hcs : M2.1.cls = "java/lang/String") (hw8 : (st.map fun v => v.category).sum ≤ 8) (hd : decode M.2.1 pc = .ok (.invokevirtual ix, 3)) (he : Ev G M2 (.ref (adK G i) :: []) σ (some v1) σ1) (k : Rn G M (pc + 3) L (v1 :: st) σ1 r σ') : Rn G M pc L (.ref (adK G i) :: st) σ r σ' := p_callKG hm hc hR hi hcs rfl hw8 rfl rfl hd he k
theorem p_cV1v {G : GX} {M : MI} {pc : Nat} {L : LL} {st : List Value} {σ σ' : SG} {r : Option Value} {M2 : MI} {ix i : Nat} {b0 : Value} {σ1 : SG} (hm : ML M.1.cls ix M2.1 1) (hc : MC M2) (hR : MR M M2) (hO : isO σ i M2.1.cls) (hw8 : (st.map fun v => v.category).sum ≤ 8) (hd : decode M.2.1 pc = .ok (.invokevirtual ix, 3)) (he : Ev G M2 (rf G i :: [b0]) σ none σ1) (k : Rn G M (pc + 3) L st σ1 r σ') : Rn G M pc L (b0 :: rf G i :: st) σ r σ' := by
  obtain ⟨hi, ci, fs, T, N, h1, h2⟩ := hO
  exact p_callVG hm hc hR hi h1 ⟨T, N, h2⟩ rfl hw8 rfl rfl hd he k
theorem p_cS1v {G : GX} {M : MI} {pc : Nat} {L : LL} {st : List Value} {σ σ' : SG} {r : Option Value} {M2 : MI} {ix : Nat} {b0 : Value} {σ1 : SG} (hm : MS M.1.cls ix M2.1 1) (hc : MC M2) (hR : MR M M2) (hw8 : (st.map fun v => v.category).sum ≤ 8) (hd : decode M.2.1 pc = .ok (.invokestatic ix, 3)) (he : Ev G M2 [b0] σ none σ1) (k : Rn G M (pc + 3) L st σ1 r σ') : Rn G M pc L (b0 :: st) σ r σ' := p_callSG hm hc hR rfl hw8 rfl rfl hd he k
theorem p_cK1v {G : GX} {M : MI} {pc : Nat} {L : LL} {st : List Value} {σ σ' : SG} {r : Option Value} {M2 : MI} {ix i : Nat} {b0 : Value} {σ1 : SG} (hi : i < 12) (hm : ML M.1.cls ix M2.1 1) (hc : MC M2) (hR : MR M M2) (hcs : M2.1.cls = "java/lang/String") (hw8 : (st.map fun v => v.category).sum ≤ 8) (hd : decode M.2.1 pc = .ok (.invokevirtual ix, 3)) (he : Ev G M2 (.ref (adK G i) :: [b0]) σ none σ1) (k : Rn G M (pc + 3) L st σ1 r σ') : Rn G M pc L (b0 :: .ref (adK G i) :: st) σ r σ' := p_callKG hm hc hR hi hcs rfl hw8 rfl rfl hd he k
theorem p_cV1r {G : GX} {M : MI} {pc : Nat} {L : LL} {st : List Value} {σ σ' : SG} {r : Option Value} {M2 : MI} {ix i : Nat} {b0 : Value} {v1 : Value} {σ1 : SG} (hm : ML M.1.cls ix M2.1 1) (hc : MC M2) (hR : MR M M2) (hO : isO σ i M2.1.cls) (hw8 : (st.map fun v => v.category).sum ≤ 8) (hd : decode M.2.1 pc = .ok (.invokevirtual ix, 3)) (he : Ev G M2 (rf G i :: [b0]) σ (some v1) σ1) (k : Rn G M (pc + 3) L (v1 :: st) σ1 r σ') : Rn G M pc L (b0 :: rf G i :: st) σ r σ' := by
  obtain ⟨hi, ci, fs, T, N, h1, h2⟩ := hO
  exact p_callVG hm hc hR hi h1 ⟨T, N, h2⟩ rfl hw8 rfl rfl hd he k
theorem p_cS1r {G : GX} {M : MI} {pc : Nat} {L : LL} {st : List Value} {σ σ' : SG} {r : Option Value} {M2 : MI} {ix : Nat} {b0 : Value} {v1 : Value} {σ1 : SG} (hm : MS M.1.cls ix M2.1 1) (hc : MC M2) (hR : MR M M2) (hw8 : (st.map fun v => v.category).sum ≤ 8) (hd : decode M.2.1 pc = .ok (.invokestatic ix, 3)) (he : Ev G M2 [b0] σ (some v1) σ1) (k : Rn G M (pc + 3) L (v1 :: st) σ1 r σ') : Rn G M pc L (b0 :: st) σ r σ' := p_callSG hm hc hR rfl hw8 rfl rfl hd he k
theorem p_cK1r {G : GX} {M : MI} {pc : Nat} {L : LL} {st : List Value} {σ σ' : SG} {r : Option Value} {M2 : MI} {ix i : Nat} {b0 : Value} {v1 : Value} {σ1 : SG} (hi : i < 12) (hm : ML M.1.cls ix M2.1 1) (hc : MC M2) (hR : MR M M2) (hcs : M2.1.cls = "java/lang/String") (hw8 : (st.map fun v => v.category).sum ≤ 8) (hd : decode M.2.1 pc = .ok (.invokevirtual ix, 3)) (he : Ev G M2 (.ref (adK G i) :: [b0]) σ (some v1) σ1) (k : Rn G M (pc + 3) L (v1 :: st) σ1 r σ') : Rn G M pc L (b0 :: .ref (adK G i) :: st) σ r σ' := p_callKG hm hc hR hi hcs rfl hw8 rfl rfl hd he k
theorem p_cV2v {G : GX} {M : MI} {pc : Nat} {L : LL} {st : List Value} {σ σ' : SG} {r : Option Value} {M2 : MI} {ix i : Nat} {b0 b1 : Value} {σ1 : SG} (hm : ML M.1.cls ix M2.1 2) (hc : MC M2) (hR : MR M M2) (hO : isO σ i M2.1.cls) (hw8 : (st.map fun v => v.category).sum ≤ 8) (hd : decode M.2.1 pc = .ok (.invokevirtual ix, 3)) (he : Ev G M2 (rf G i :: [b0, b1]) σ none σ1) (k : Rn G M (pc + 3) L st σ1 r σ') : Rn G M pc L (b1 :: b0 :: rf G i :: st) σ r σ' := by
  obtain ⟨hi, ci, fs, T, N, h1, h2⟩ := hO
  exact p_callVG hm hc hR hi h1 ⟨T, N, h2⟩ rfl hw8 rfl rfl hd he k
theorem p_cS2v {G : GX} {M : MI} {pc : Nat} {L : LL} {st : List Value} {σ σ' : SG} {r : Option Value} {M2 : MI} {ix : Nat} {b0 b1 : Value} {σ1 : SG} (hm : MS M.1.cls ix M2.1 2) (hc : MC M2) (hR : MR M M2) (hw8 : (st.map fun v => v.category).sum ≤ 8) (hd : decode M.2.1 pc = .ok (.invokestatic ix, 3)) (he : Ev G M2 [b0, b1] σ none σ1) (k : Rn G M (pc + 3) L st σ1 r σ') : Rn G M pc L (b1 :: b0 :: st) σ r σ' := p_callSG hm hc hR rfl hw8 rfl rfl hd he k
theorem p_cV2r {G : GX} {M : MI} {pc : Nat} {L : LL} {st : List Value} {σ σ' : SG} {r : Option Value} {M2 : MI} {ix i : Nat} {b0 b1 : Value} {v1 : Value} {σ1 : SG} (hm : ML M.1.cls ix M2.1 2) (hc : MC M2) (hR : MR M M2) (hO : isO σ i M2.1.cls) (hw8 : (st.map fun v => v.category).sum ≤ 8) (hd : decode M.2.1 pc = .ok (.invokevirtual ix, 3)) (he : Ev G M2 (rf G i :: [b0, b1]) σ (some v1) σ1) (k : Rn G M (pc + 3) L (v1 :: st) σ1 r σ') : Rn G M pc L (b1 :: b0 :: rf G i :: st) σ r σ' := by
  obtain ⟨hi, ci, fs, T, N, h1, h2⟩ := hO
  exact p_callVG hm hc hR hi h1 ⟨T, N, h2⟩ rfl hw8 rfl rfl hd he k
theorem p_cS2r {G : GX} {M : MI} {pc : Nat} {L : LL} {st : List Value} {σ σ' : SG} {r : Option Value} {M2 : MI} {ix : Nat} {b0 b1 : Value} {v1 : Value} {σ1 : SG} (hm : MS M.1.cls ix M2.1 2) (hc : MC M2) (hR : MR M M2) (hw8 : (st.map fun v => v.category).sum ≤ 8) (hd : decode M.2.1 pc = .ok (.invokestatic ix, 3)) (he : Ev G M2 [b0, b1] σ (some v1) σ1) (k : Rn G M (pc + 3) L (v1 :: st) σ1 r σ') : Rn G M pc L (b1 :: b0 :: st) σ r σ' := p_callSG hm hc hR rfl hw8 rfl rfl hd he k
theorem p_cV3v {G : GX} {M : MI} {pc : Nat} {L : LL} {st : List Value} {σ σ' : SG} {r : Option Value} {M2 : MI} {ix i : Nat} {b0 b1 b2 : Value} {σ1 : SG} (hm : ML M.1.cls ix M2.1 3) (hc : MC M2) (hR : MR M M2) (hO : isO σ i M2.1.cls) (hw8 : (st.map fun v => v.category).sum ≤ 8) (hd : decode M.2.1 pc = .ok (.invokevirtual ix, 3)) (he : Ev G M2 (rf G i :: [b0, b1, b2]) σ none σ1) (k : Rn G M (pc + 3) L st σ1 r σ') : Rn G M pc L (b2 :: b1 :: b0 :: rf G i :: st) σ r σ' := by
  obtain ⟨hi, ci, fs, T, N, h1, h2⟩ := hO
  exact p_callVG hm hc hR hi h1 ⟨T, N, h2⟩ rfl hw8 rfl rfl hd he k
theorem p_cS3v {G : GX} {M : MI} {pc : Nat} {L : LL} {st : List Value} {σ σ' : SG} {r : Option Value} {M2 : MI} {ix : Nat} {b0 b1 b2 : Value} {σ1 : SG} (hm : MS M.1.cls ix M2.1 3) (hc : MC M2) (hR : MR M M2) (hw8 : (st.map fun v => v.category).sum ≤ 8) (hd : decode M.2.1 pc = .ok (.invokestatic ix, 3)) (he : Ev G M2 [b0, b1, b2] σ none σ1) (k : Rn G M (pc + 3) L st σ1 r σ') : Rn G M pc L (b2 :: b1 :: b0 :: st) σ r σ' := p_callSG hm hc hR rfl hw8 rfl rfl hd he k
theorem p_cV3r {G : GX} {M : MI} {pc : Nat} {L : LL} {st : List Value} {σ σ' : SG} {r : Option Value} {M2 : MI} {ix i : Nat} {b0 b1 b2 : Value} {v1 : Value} {σ1 : SG} (hm : ML M.1.cls ix M2.1 3) (hc : MC M2) (hR : MR M M2) (hO : isO σ i M2.1.cls) (hw8 : (st.map fun v => v.category).sum ≤ 8) (hd : decode M.2.1 pc = .ok (.invokevirtual ix, 3)) (he : Ev G M2 (rf G i :: [b0, b1, b2]) σ (some v1) σ1) (k : Rn G M (pc + 3) L (v1 :: st) σ1 r σ') : Rn G M pc L (b2 :: b1 :: b0 :: rf G i :: st) σ r σ' := by
  obtain ⟨hi, ci, fs, T, N, h1, h2⟩ := hO
  exact p_callVG hm hc hR hi h1 ⟨T, N, h2⟩ rfl hw8 rfl rfl hd he k
theorem p_cS3r {G : GX} {M : MI} {pc : Nat} {L : LL} {st : List Value} {σ σ' : SG} {r : Option Value} {M2 : MI} {ix : Nat} {b0 b1 b2 : Value} {v1 : Value} {σ1 : SG} (hm : MS M.1.cls ix M2.1 3) (hc : MC M2) (hR : MR M M2) (hw8 : (st.map fun v => v.category).sum ≤ 8) (hd : decode M.2.1 pc = .ok (.invokestatic ix, 3)) (he : Ev G M2 [b0, b1, b2] σ (some v1) σ1) (k : Rn G M (pc + 3) L (v1 :: st) σ1 r σ') : Rn G M pc L (b2 :: b1 :: b0 :: st) σ r σ' := p_callSG hm hc hR rfl hw8 rfl rfl hd he k
theorem p_cV4v {G : GX} {M : MI} {pc : Nat} {L : LL} {st : List Value} {σ σ' : SG} {r : Option Value} {M2 : MI} {ix i : Nat} {b0 b1 b2 b3 : Value} {σ1 : SG} (hm : ML M.1.cls ix M2.1 4) (hc : MC M2) (hR : MR M M2) (hO : isO σ i M2.1.cls) (hw8 : (st.map fun v => v.category).sum ≤ 8) (hd : decode M.2.1 pc = .ok (.invokevirtual ix, 3)) (he : Ev G M2 (rf G i :: [b0, b1, b2, b3]) σ none σ1) (k : Rn G M (pc + 3) L st σ1 r σ') : Rn G M pc L (b3 :: b2 :: b1 :: b0 :: rf G i :: st) σ r σ' := by
  obtain ⟨hi, ci, fs, T, N, h1, h2⟩ := hO
  exact p_callVG hm hc hR hi h1 ⟨T, N, h2⟩ rfl hw8 rfl rfl hd he k
theorem p_cS4v {G : GX} {M : MI} {pc : Nat} {L : LL} {st : List Value} {σ σ' : SG} {r : Option Value} {M2 : MI} {ix : Nat} {b0 b1 b2 b3 : Value} {σ1 : SG} (hm : MS M.1.cls ix M2.1 4) (hc : MC M2) (hR : MR M M2) (hw8 : (st.map fun v => v.category).sum ≤ 8) (hd : decode M.2.1 pc = .ok (.invokestatic ix, 3)) (he : Ev G M2 [b0, b1, b2, b3] σ none σ1) (k : Rn G M (pc + 3) L st σ1 r σ') : Rn G M pc L (b3 :: b2 :: b1 :: b0 :: st) σ r σ' := p_callSG hm hc hR rfl hw8 rfl rfl hd he k
theorem p_cV4r {G : GX} {M : MI} {pc : Nat} {L : LL} {st : List Value} {σ σ' : SG} {r : Option Value} {M2 : MI} {ix i : Nat} {b0 b1 b2 b3 : Value} {v1 : Value} {σ1 : SG} (hm : ML M.1.cls ix M2.1 4) (hc : MC M2) (hR : MR M M2) (hO : isO σ i M2.1.cls) (hw8 : (st.map fun v => v.category).sum ≤ 8) (hd : decode M.2.1 pc = .ok (.invokevirtual ix, 3)) (he : Ev G M2 (rf G i :: [b0, b1, b2, b3]) σ (some v1) σ1) (k : Rn G M (pc + 3) L (v1 :: st) σ1 r σ') : Rn G M pc L (b3 :: b2 :: b1 :: b0 :: rf G i :: st) σ r σ' := by
  obtain ⟨hi, ci, fs, T, N, h1, h2⟩ := hO
  exact p_callVG hm hc hR hi h1 ⟨T, N, h2⟩ rfl hw8 rfl rfl hd he k
theorem p_cS4r {G : GX} {M : MI} {pc : Nat} {L : LL} {st : List Value} {σ σ' : SG} {r : Option Value} {M2 : MI} {ix : Nat} {b0 b1 b2 b3 : Value} {v1 : Value} {σ1 : SG} (hm : MS M.1.cls ix M2.1 4) (hc : MC M2) (hR : MR M M2) (hw8 : (st.map fun v => v.category).sum ≤ 8) (hd : decode M.2.1 pc = .ok (.invokestatic ix, 3)) (he : Ev G M2 [b0, b1, b2, b3] σ (some v1) σ1) (k : Rn G M (pc + 3) L (v1 :: st) σ1 r σ') : Rn G M pc L (b3 :: b2 :: b1 :: b0 :: st) σ r σ' := p_callSG hm hc hR rfl hw8 rfl rfl hd he k
theorem p_cV5v {G : GX} {M : MI} {pc : Nat} {L : LL} {st : List Value} {σ σ' : SG} {r : Option Value} {M2 : MI} {ix i : Nat} {b0 b1 b2 b3 b4 : Value} {σ1 : SG} (hm : ML M.1.cls ix M2.1 5) (hc : MC M2) (hR : MR M M2) (hO : isO σ i M2.1.cls) (hw8 : (st.map fun v => v.category).sum ≤ 8) (hd : decode M.2.1 pc = .ok (.invokevirtual ix, 3)) (he : Ev G M2 (rf G i :: [b0, b1, b2, b3, b4]) σ none σ1) (k : Rn G M (pc + 3) L st σ1 r σ') : Rn G M pc L (b4 :: b3 :: b2 :: b1 :: b0 :: rf G i :: st) σ r σ' := by
  obtain ⟨hi, ci, fs, T, N, h1, h2⟩ := hO
  exact p_callVG hm hc hR hi h1 ⟨T, N, h2⟩ rfl hw8 rfl rfl hd he k
theorem p_cS5v {G : GX} {M : MI} {pc : Nat} {L : LL} {st : List Value} {σ σ' : SG} {r : Option Value} {M2 : MI} {ix : Nat} {b0 b1 b2 b3 b4 : Value} {σ1 : SG} (hm : MS M.1.cls ix M2.1 5) (hc : MC M2) (hR : MR M M2) (hw8 : (st.map fun v => v.category).sum ≤ 8) (hd : decode M.2.1 pc = .ok (.invokestatic ix, 3)) (he : Ev G M2 [b0, b1, b2, b3, b4] σ none σ1) (k : Rn G M (pc + 3) L st σ1 r σ') : Rn G M pc L (b4 :: b3 :: b2 :: b1 :: b0 :: st) σ r σ' := p_callSG hm hc hR rfl hw8 rfl rfl hd he k
theorem p_cV5r {G : GX} {M : MI} {pc : Nat} {L : LL} {st : List Value} {σ σ' : SG} {r : Option Value} {M2 : MI} {ix i : Nat} {b0 b1 b2 b3 b4 : Value} {v1 : Value} {σ1 : SG} (hm : ML M.1.cls ix M2.1 5) (hc : MC M2) (hR : MR M M2) (hO : isO σ i M2.1.cls) (hw8 : (st.map fun v => v.category).sum ≤ 8) (hd : decode M.2.1 pc = .ok (.invokevirtual ix, 3)) (he : Ev G M2 (rf G i :: [b0, b1, b2, b3, b4]) σ (some v1) σ1) (k : Rn G M (pc + 3) L (v1 :: st) σ1 r σ') : Rn G M pc L (b4 :: b3 :: b2 :: b1 :: b0 :: rf G i :: st) σ r σ' := by
  obtain ⟨hi, ci, fs, T, N, h1, h2⟩ := hO
  exact p_callVG hm hc hR hi h1 ⟨T, N, h2⟩ rfl hw8 rfl rfl hd he k
theorem p_cS5r {G : GX} {M : MI} {pc : Nat} {L : LL} {st : List Value} {σ σ' : SG} {r : Option Value} {M2 : MI} {ix : Nat} {b0 b1 b2 b3 b4 : Value} {v1 : Value} {σ1 : SG} (hm : MS M.1.cls ix M2.1 5) (hc : MC M2) (hR : MR M M2) (hw8 : (st.map fun v => v.category).sum ≤ 8) (hd : decode M.2.1 pc = .ok (.invokestatic ix, 3)) (he : Ev G M2 [b0, b1, b2, b3, b4] σ (some v1) σ1) (k : Rn G M (pc + 3) L (v1 :: st) σ1 r σ') : Rn G M pc L (b4 :: b3 :: b2 :: b1 :: b0 :: st) σ r σ' := p_callSG hm hc hR rfl hw8 rfl rfl hd he k
end
section
def mX4_init : MI := (yX4_init, cX4_init, 1, none, 1, 20)
theorem mc_X4_init : MC mX4_init := wt1_18
def mX0_init : MI := (yX0_init, cX0_init, 1, none, 1, 20)
theorem mc_X0_init : MC mX0_init := wt1_26
def mX3_init : MI := (yX3_init, cX3_init, 1, none, 1, 20)
theorem mc_X3_init : MC mX3_init := wt1_74
def mX2_init : MI := (yX2_init, cX2_init, 1, none, 1, 20)
theorem mc_X2_init : MC mX2_init := wt1_98
def mX4_man : MI := (yX4_man, cX4_man, 2, (some .int), 2, 44)
theorem mc_X4_man : MC mX4_man := wt1_139
def mX4_isGuise : MI := (yX4_isGuise, cX4_isGuise, 1, (some .boolean), 1, 22)
theorem mc_X4_isGuise : MC mX4_isGuise := wt1_142
def mX4_isWithin : MI := (yX4_isWithin, cX4_isWithin, 3, (some .boolean), 0, 0)
theorem mc_X4_isWithin : MC mX4_isWithin := wt1_145
def mX4_tell : MI := (yX4_tell, cX4_tell, 3, (some .int), 1, 22)
theorem mc_X4_tell : MC mX4_tell := wt1_150
def mX0_hasRoomForMan : MI := (yX0_hasRoomForMan, cX0_hasRoomForMan, 1, (some .boolean), 0, 0)
theorem mc_X0_hasRoomForMan : MC mX0_hasRoomForMan := wt1_154
def mX0_addMan : MI := (yX0_addMan, cX0_addMan, 4, (some .int), 1, 20)
theorem mc_X0_addMan : MC mX0_addMan := wt1_159
def mX4_manOf : MI := (yX4_manOf, cX4_manOf, 3, (some .int), 2, 44)
theorem mc_X4_manOf : MC mX4_manOf := wt1_164
def mX0_hasMan : MI := (yX0_hasMan, cX0_hasMan, 2, (some .boolean), 0, 0)
theorem mc_X0_hasMan : MC mX0_hasMan := wt1_168
def mX4_dress : MI := (yX4_dress, cX4_dress, 5, (some .int), 2, 44)
theorem mc_X4_dress : MC mX4_dress := wt1_172
def mX4_first : MI := (yX4_first, cX4_first, 3, (some .int), 2, 44)
theorem mc_X4_first : MC mX4_first := wt1_176
def mX4_goesHome : MI := (yX4_goesHome, cX4_goesHome, 1, (some .int), 2, 44)
theorem mc_X4_goesHome : MC mX4_goesHome := wt1_180
def mX0_dropLastMan : MI := (yX0_dropLastMan, cX0_dropLastMan, 1, none, 0, 0)
theorem mc_X0_dropLastMan : MC mX0_dropLastMan := wt1_185
def mX4_sheep : MI := (yX4_sheep, cX4_sheep, 2, (some .int), 2, 44)
theorem mc_X4_sheep : MC mX4_sheep := wt1_189
def mX1_isKind : MI := (yX1_isKind, cX1_isKind, 1, (some .boolean), 0, 0)
theorem mc_X1_isKind : MC mX1_isKind := wt1_192
def mX0_hasRoomForSheep : MI := (yX0_hasRoomForSheep, cX0_hasRoomForSheep, 1, (some .boolean), 0, 0)
theorem mc_X0_hasRoomForSheep : MC mX0_hasRoomForSheep := wt1_196
def mX0_addSheep : MI := (yX0_addSheep, cX0_addSheep, 4, (some .int), 1, 20)
theorem mc_X0_addSheep : MC mX0_addSheep := wt1_200
def mX4_of : MI := (yX4_of, cX4_of, 3, (some .int), 2, 44)
theorem mc_X4_of : MC mX4_of := wt1_205
def mX0_hasSheep : MI := (yX0_hasSheep, cX0_hasSheep, 2, (some .boolean), 0, 0)
theorem mc_X0_hasSheep : MC mX0_hasSheep := wt1_209
def mX0_isAsleep : MI := (yX0_isAsleep, cX0_isAsleep, 2, (some .boolean), 0, 0)
theorem mc_X0_isAsleep : MC mX0_isAsleep := wt1_213
def mX1_wakesBy : MI := (yX1_wakesBy, cX1_wakesBy, 1, (some .int), 1, 20)
theorem mc_X1_wakesBy : MC mX1_wakesBy := wt1_216
def mX1_tiresBy : MI := (yX1_tiresBy, cX1_tiresBy, 1, (some .int), 1, 20)
theorem mc_X1_tiresBy : MC mX1_tiresBy := wt1_222
def mX4_set : MI := (yX4_set, cX4_set, 5, (some .int), 2, 44)
theorem mc_X4_set : MC mX4_set := wt1_228
def mX4_turn : MI := (yX4_turn, cX4_turn, 4, (some .int), 2, 44)
theorem mc_X4_turn : MC mX4_turn := wt1_232
def mX4_as : MI := (yX4_as, cX4_as, 3, (some .int), 2, 44)
theorem mc_X4_as : MC mX4_as := wt1_236
def mX1_isOf : MI := (yX1_isOf, cX1_isOf, 4, (some .boolean), 1, 20)
theorem mc_X1_isOf : MC mX1_isOf := wt1_239
def mX4_counts : MI := (yX4_counts, cX4_counts, 3, (some .int), 2, 48)
theorem mc_X4_counts : MC mX4_counts := wt2_6
def mX1_unlike : MI := (yX1_unlike, cX1_unlike, 2, (some .int), 1, 20)
theorem mc_X1_unlike : MC mX1_unlike := wt2_9
def mJ6_bitCount_0f7a4 : MI := (yJ6_bitCount_0f7a4, cJ6_bitCount_0f7a4, 1, (some .int), 0, 0)
theorem mc_J6_bitCount_0f7a4 : MC mJ6_bitCount_0f7a4 := wt2_12
def mX1_takesOff : MI := (yX1_takesOff, cX1_takesOff, 8, (some .int), 1, 21)
theorem mc_X1_takesOff : MC mX1_takesOff := wt2_18
def mJ9_max_7cf53 : MI := (yJ9_max_7cf53, cJ9_max_7cf53, 2, (some .int), 0, 0)
theorem mc_J9_max_7cf53 : MC mJ9_max_7cf53 := wt2_21
def mX4_minutes : MI := (yX4_minutes, cX4_minutes, 2, (some .int), 5, 115)
theorem mc_X4_minutes : MC mX4_minutes := wt2_25
def mX0_play : MI := (yX0_play, cX0_play, 3, none, 4, 93)
theorem mc_X0_play : MC mX0_play := wt2_31
def mX0_playMinute : MI := (yX0_playMinute, cX0_playMinute, 1, none, 3, 73)
theorem mc_X0_playMinute : MC mX0_playMinute := wt2_35
def mX0_canPass : MI := (yX0_canPass, cX0_canPass, 2, (some .boolean), 0, 0)
theorem mc_X0_canPass : MC mX0_canPass := wt2_40
def mX0_pass : MI := (yX0_pass, cX0_pass, 6, none, 2, 48)
theorem mc_X0_pass : MC mX0_pass := wt2_44
def mJ9_min_7cf53 : MI := (yJ9_min_7cf53, cJ9_min_7cf53, 2, (some .int), 0, 0)
theorem mc_J9_min_7cf53 : MC mJ9_min_7cf53 := wt2_51
def mX0_stayAlone : MI := (yX0_stayAlone, cX0_stayAlone, 2, none, 2, 40)
theorem mc_X0_stayAlone : MC mX0_stayAlone := wt2_56
def mX0_sleepers : MI := (yX0_sleepers, cX0_sleepers, 3, (some .int), 1, 21)
theorem mc_X0_sleepers : MC mX0_sleepers := wt2_61
def mX4_now : MI := (yX4_now, cX4_now, 2, (some .int), 2, 44)
theorem mc_X4_now : MC mX4_now := wt2_65
def mX0_wantsOfAll : MI := (yX0_wantsOfAll, cX0_wantsOfAll, 3, (some .int), 0, 0)
theorem mc_X0_wantsOfAll : MC mX0_wantsOfAll := wt2_69
def mX0_wearWithout : MI := (yX0_wearWithout, cX0_wearWithout, 4, (some .int), 1, 21)
theorem mc_X0_wearWithout : MC mX0_wearWithout := wt2_73
def mX0_isIn : MI := (yX0_isIn, cX0_isIn, 2, (some .boolean), 0, 0)
theorem mc_X0_isIn : MC mX0_isIn := wt2_76
def mX0_passers : MI := (yX0_passers, cX0_passers, 3, (some .int), 1, 21)
theorem mc_X0_passers : MC mX0_passers := wt2_80
def mX4_on : MI := (yX4_on, cX4_on, 4, (some .int), 5, 115)
theorem mc_X4_on : MC mX4_on := wt2_84
def mX4_startTrial : MI := (yX4_startTrial, cX4_startTrial, 1, none, 1, 22)
theorem mc_X4_startTrial : MC mX4_startTrial := wt2_88
def mX0_becomes : MI := (yX0_becomes, cX0_becomes, 3, none, 0, 0)
theorem mc_X0_becomes : MC mX0_becomes := wt2_92
def mX4_worn : MI := (yX4_worn, cX4_worn, 3, (some .int), 5, 115)
theorem mc_X4_worn : MC mX4_worn := wt2_96
def mX4_sleeps : MI := (yX4_sleeps, cX4_sleeps, 2, (some .int), 5, 116)
theorem mc_X4_sleeps : MC mX4_sleeps := wt2_100
def mX0_playTillAsleep : MI := (yX0_playTillAsleep, cX0_playTillAsleep, 4, (some .int), 4, 93)
theorem mc_X0_playTillAsleep : MC mX0_playTillAsleep := wt2_104
def mX4_withinWait : MI := (yX4_withinWait, cX4_withinWait, 2, (some .int), 2, 44)
theorem mc_X4_withinWait : MC mX4_withinWait := wt2_108
def mX4_quiet : MI := (yX4_quiet, cX4_quiet, 1, (some .int), 5, 115)
theorem mc_X4_quiet : MC mX4_quiet := wt2_112
def mX0_playTillQuiet : MI := (yX0_playTillQuiet, cX0_playTillQuiet, 3, (some .int), 4, 93)
theorem mc_X0_playTillQuiet : MC mX0_playTillQuiet := wt2_116
def mX0_isQuiet : MI := (yX0_isQuiet, cX0_isQuiet, 2, (some .boolean), 1, 21)
theorem mc_X0_isQuiet : MC mX0_isQuiet := wt2_120
def mX4_bare : MI := (yX4_bare, cX4_bare, 2, (some .int), 5, 116)
theorem mc_X4_bare : MC mX4_bare := wt2_124
def mX0_playTillBare : MI := (yX0_playTillBare, cX0_playTillBare, 4, (some .int), 4, 93)
theorem mc_X0_playTillBare : MC mX0_playTillBare := wt2_128
def mX4_guise : MI := (yX4_guise, cX4_guise, 6, (some .int), 5, 115)
theorem mc_X4_guise : MC mX4_guise := wt2_132
def mX4_answer : MI := (yX4_answer, cX4_answer, 2, (some .int), 2, 44)
theorem mc_X4_answer : MC mX4_answer := wt2_136
def mX4_guises : MI := (yX4_guises, cX4_guises, 7, (some .int), 5, 115)
theorem mc_X4_guises : MC mX4_guises := wt2_140
def mX4_swap : MI := (yX4_swap, cX4_swap, 6, (some .int), 5, 115)
theorem mc_X4_swap : MC mX4_swap := wt2_144
def mX0_exchange : MI := (yX0_exchange, cX0_exchange, 5, none, 0, 0)
theorem mc_X0_exchange : MC mX0_exchange := wt2_148
def mX4_spare : MI := (yX4_spare, cX4_spare, 7, (some .int), 6, 137)
theorem mc_X4_spare : MC mX4_spare := wt2_152
def mX4_wearWhenOut : MI := (yX4_wearWhenOut, cX4_wearWhenOut, 3, (some .int), 5, 115)
theorem mc_X4_wearWhenOut : MC mX4_wearWhenOut := wt2_157
def mX0_wearOut : MI := (yX0_wearOut, cX0_wearOut, 3, none, 1, 21)
theorem mc_X0_wearOut : MC mX0_wearOut := wt2_161
def mX4_kind : MI := (yX4_kind, cX4_kind, 6, (some .int), 5, 116)
theorem mc_X4_kind : MC mX4_kind := wt2_165
def mX4_most : MI := (yX4_most, cX4_most, 4, (some .int), 5, 115)
theorem mc_X4_most : MC mX4_most := wt2_169
def mX4_begin : MI := (yX4_begin, cX4_begin, 6, (some .int), 5, 115)
theorem mc_X4_begin : MC mX4_begin := wt2_173
def mX4_last : MI := (yX4_last, cX4_last, 5, (some .int), 5, 116)
theorem mc_X4_last : MC mX4_last := wt2_177
def mX4_feed : MI := (yX4_feed, cX4_feed, 4, (some .int), 2, 44)
theorem mc_X4_feed : MC mX4_feed := wt2_181
def mX3_hasRoomFor : MI := (yX3_hasRoomFor, cX3_hasRoomFor, 2, (some .boolean), 0, 0)
theorem mc_X3_hasRoomFor : MC mX3_hasRoomFor := wt2_185
def mX3_append : MI := (yX3_append, cX3_append, 2, none, 1, 21)
theorem mc_X3_append : MC mX3_append := wt2_189
def mX4_wipe : MI := (yX4_wipe, cX4_wipe, 2, (some .int), 0, 0)
theorem mc_X4_wipe : MC mX4_wipe := wt2_194
def mX4_fell : MI := (yX4_fell, cX4_fell, 2, (some .int), 10, 219)
theorem mc_X4_fell : MC mX4_fell := wt2_198
def mX3_tellInto : MI := (yX3_tellInto, cX3_tellInto, 3, (some .int), 9, 197)
theorem mc_X3_tellInto : MC mX3_tellInto := wt2_202
def mX3_nextToken : MI := (yX3_nextToken, cX3_nextToken, 1, none, 1, 22)
theorem mc_X3_nextToken : MC mX3_nextToken := wt2_206
def mX3_sortAt : MI := (yX3_sortAt, cX3_sortAt, 3, (some .int), 0, 0)
theorem mc_X3_sortAt : MC mX3_sortAt := wt2_210
def mX3_takeItem : MI := (yX3_takeItem, cX3_takeItem, 3, (some .boolean), 8, 175)
theorem mc_X3_takeItem : MC mX3_takeItem := wt2_215
def mX3_isWord : MI := (yX3_isWord, cX3_isWord, 3, (some .boolean), 5, 106)
theorem mc_X3_isWord : MC mX3_isWord := wt2_220
def mJ0_length_8abf5 : MI := (yJ0_length_8abf5, cJ0_length_8abf5, 1, (some .int), 1, 20)
theorem mc_J0_length_8abf5 : MC mJ0_length_8abf5 := wt2_224
def mJ0_coder_7d493 : MI := (yJ0_coder_7d493, cJ0_coder_7d493, 1, (some .byte), 0, 0)
theorem mc_J0_coder_7d493 : MC mJ0_coder_7d493 := wt2_228
def mJ0_charAt_5068e : MI := (yJ0_charAt_5068e, cJ0_charAt_5068e, 2, (some .char), 4, 85)
theorem mc_J0_charAt_5068e : MC mJ0_charAt_5068e := wt2_234
def mJ0_isLatin1_aae02 : MI := (yJ0_isLatin1_aae02, cJ0_isLatin1_aae02, 1, (some .boolean), 0, 0)
theorem mc_J0_isLatin1_aae02 : MC mJ0_isLatin1_aae02 := wt2_238
def mJ1_charAt_3b067 : MI := (yJ1_charAt_3b067, cJ1_charAt_3b067, 2, (some .char), 2, 43)
theorem mc_J1_charAt_3b067 : MC mJ1_charAt_3b067 := wt3_1
def mJ0_checkIndex_df160 : MI := (yJ0_checkIndex_df160, cJ0_checkIndex_df160, 2, none, 1, 22)
theorem mc_J0_checkIndex_df160 : MC mJ0_checkIndex_df160 := wt3_4
def mJ3_checkIndex_8e157 : MI := (yJ3_checkIndex_8e157, cJ3_checkIndex_8e157, 3, (some .int), 0, 0)
theorem mc_J3_checkIndex_8e157 : MC mJ3_checkIndex_8e157 := wt3_9
def mJ2_charAt_3b067 : MI := (yJ2_charAt_3b067, cJ2_charAt_3b067, 2, (some .char), 3, 64)
theorem mc_J2_charAt_3b067 : MC mJ2_charAt_3b067 := wt3_12
def mJ2_checkIndex_2214a : MI := (yJ2_checkIndex_2214a, cJ2_checkIndex_2214a, 2, none, 2, 43)
theorem mc_J2_checkIndex_2214a : MC mJ2_checkIndex_2214a := wt3_15
def mJ2_length_9d52b : MI := (yJ2_length_9d52b, cJ2_length_9d52b, 1, (some .int), 0, 0)
theorem mc_J2_length_9d52b : MC mJ2_length_9d52b := wt3_18
def mJ2_getChar_3b067 : MI := (yJ2_getChar_3b067, cJ2_getChar_3b067, 2, (some .char), 1, 20)
theorem mc_J2_getChar_3b067 : MC mJ2_getChar_3b067 := wt3_22
def mX3_takeMan : MI := (yX3_takeMan, cX3_takeMan, 4, (some .boolean), 7, 152)
theorem mc_X3_takeMan : MC mX3_takeMan := wt3_33
def mX3_takeWord : MI := (yX3_takeWord, cX3_takeWord, 2, (some .boolean), 6, 128)
theorem mc_X3_takeWord : MC mX3_takeWord := wt3_38
def mX3_takeNumberAfter : MI := (yX3_takeNumberAfter, cX3_takeNumberAfter, 5, (some .int), 6, 128)
theorem mc_X3_takeNumberAfter : MC mX3_takeNumberAfter := wt3_45
def mX3_numberHere : MI := (yX3_numberHere, cX3_numberHere, 3, (some .int), 1, 21)
theorem mc_X3_numberHere : MC mX3_numberHere := wt3_49
def mX3_kindNamed : MI := (yX3_kindNamed, cX3_kindNamed, 2, (some .int), 6, 128)
theorem mc_X3_kindNamed : MC mX3_kindNamed := wt3_54
def mX1_nameOf : MI := (yX1_nameOf, cX1_nameOf, 1, (some (.object "java/lang/String")), 0, 0)
theorem mc_X1_nameOf : MC mX1_nameOf := wt3_57
def mX3_takeSheep : MI := (yX3_takeSheep, cX3_takeSheep, 4, (some .boolean), 7, 152)
theorem mc_X3_takeSheep : MC mX3_takeSheep := wt3_69
def mX4_sheet : MI := (yX4_sheet, cX4_sheet, 4, (some .int), 2, 44)
theorem mc_X4_sheet : MC mX4_sheet := wt3_76
def mX4_isSheet : MI := (yX4_isSheet, cX4_isSheet, 2, (some .boolean), 1, 22)
theorem mc_X4_isSheet : MC mX4_isSheet := wt3_80
def mX2_isWidth : MI := (yX2_isWidth, cX2_isWidth, 1, (some .boolean), 0, 0)
theorem mc_X2_isWidth : MC mX2_isWidth := wt3_83
def mX2_ruleAnew : MI := (yX2_ruleAnew, cX2_ruleAnew, 4, none, 0, 0)
theorem mc_X2_ruleAnew : MC mX2_ruleAnew := wt3_88
def mX4_write : MI := (yX4_write, cX4_write, 8, (some .long), 3, 64)
theorem mc_X4_write : MC mX4_write := wt3_92
def mX4_missingSheet : MI := (yX4_missingSheet, cX4_missingSheet, 2, (some .int), 2, 43)
theorem mc_X4_missingSheet : MC mX4_missingSheet := wt3_96
def mX2_isMissing : MI := (yX2_isMissing, cX2_isMissing, 1, (some .boolean), 0, 0)
theorem mc_X2_isMissing : MC mX2_isMissing := wt3_100
def mX2_put : MI := (yX2_put, cX2_put, 4, none, 0, 0)
theorem mc_X2_put : MC mX2_put := wt3_105
def mX4_copy : MI := (yX4_copy, cX4_copy, 8, (some .int), 2, 44)
theorem mc_X4_copy : MC mX4_copy := wt3_109
def mX2_hasRun : MI := (yX2_hasRun, cX2_hasRun, 3, (some .boolean), 0, 0)
theorem mc_X2_hasRun : MC mX2_hasRun := wt3_113
def mX4_lays : MI := (yX4_lays, cX4_lays, 8, (some .int), 3, 64)
theorem mc_X4_lays : MC mX4_lays := wt3_120
def mX4_book : MI := (yX4_book, cX4_book, 6, (some .int), 5, 115)
theorem mc_X4_book : MC mX4_book := wt3_125
def mX4_read : MI := (yX4_read, cX4_read, 7, (some .int), 6, 138)
theorem mc_X4_read : MC mX4_read := wt3_129
def mX4_trialSees : MI := (yX4_trialSees, cX4_trialSees, 4, (some .boolean), 5, 115)
theorem mc_X4_trialSees : MC mX4_trialSees := wt3_133
def mX4_image : MI := (yX4_image, cX4_image, 1, (some .int), 1, 22)
theorem mc_X4_image : MC mX4_image := wt3_137
def mX4_undo : MI := (yX4_undo, cX4_undo, 1, (some .int), 2, 44)
theorem mc_X4_undo : MC mX4_undo := wt3_141
def mX4_tear : MI := (yX4_tear, cX4_tear, 2, (some .int), 0, 0)
theorem mc_X4_tear : MC mX4_tear := wt3_145
def mX4_count : MI := (yX4_count, cX4_count, 2, (some .int), 2, 44)
theorem mc_X4_count : MC mX4_count := wt3_149
def mX0_seenByAll : MI := (yX0_seenByAll, cX0_seenByAll, 3, (some .int), 0, 0)
theorem mc_X0_seenByAll : MC mX0_seenByAll := wt3_153
def mX4_status : MI := (yX4_status, cX4_status, 7, (some .int), 2, 44)
theorem mc_X4_status : MC mX4_status := wt3_157
def mX5_init : MI := (yX5_init, cX5_init, 1, none, 1, 20)
theorem mc_X5_init : MC mX5_init := wt3_162
def mX5_man : MI := (yX5_man, cX5_man, 2, (some .int), 2, 45)
theorem mc_X5_man : MC mX5_man := wt3_222
def mX5_isGuise : MI := (yX5_isGuise, cX5_isGuise, 1, (some .boolean), 1, 25)
theorem mc_X5_isGuise : MC mX5_isGuise := wt3_225
def mX5_in : MI := (yX5_in, cX5_in, 6, (some .boolean), 0, 0)
theorem mc_X5_in : MC mX5_in := wt3_229
def mX5_finds : MI := (yX5_finds, cX5_finds, 2, (some .int), 0, 0)
theorem mc_X5_finds : MC mX5_finds := wt3_234
def mX5_addsMan : MI := (yX5_addsMan, cX5_addsMan, 3, (some .int), 1, 21)
theorem mc_X5_addsMan : MC mX5_addsMan := wt3_239
def mX5_placeOf : MI := (yX5_placeOf, cX5_placeOf, 2, (some .int), 0, 0)
theorem mc_X5_placeOf : MC mX5_placeOf := wt4_2
def mX5_manOf : MI := (yX5_manOf, cX5_manOf, 3, (some .int), 2, 46)
theorem mc_X5_manOf : MC mX5_manOf := wt4_6
def mX5_isMan : MI := (yX5_isMan, cX5_isMan, 2, (some .boolean), 1, 25)
theorem mc_X5_isMan : MC mX5_isMan := wt4_10
def mX5_his : MI := (yX5_his, cX5_his, 3, (some .int), 1, 21)
theorem mc_X5_his : MC mX5_his := wt4_14
def mX5_dress : MI := (yX5_dress, cX5_dress, 5, (some .int), 2, 46)
theorem mc_X5_dress : MC mX5_dress := wt4_18
def mX5_becomes : MI := (yX5_becomes, cX5_becomes, 4, (some .int), 0, 0)
theorem mc_X5_becomes : MC mX5_becomes := wt4_23
def mX5_first : MI := (yX5_first, cX5_first, 2, (some .int), 2, 46)
theorem mc_X5_first : MC mX5_first := wt4_27
def mX5_goesHome : MI := (yX5_goesHome, cX5_goesHome, 1, (some .int), 1, 21)
theorem mc_X5_goesHome : MC mX5_goesHome := wt4_31
def mX5_sheep : MI := (yX5_sheep, cX5_sheep, 2, (some .int), 2, 45)
theorem mc_X5_sheep : MC mX5_sheep := wt4_36
def mX5_isKind : MI := (yX5_isKind, cX5_isKind, 1, (some .boolean), 1, 25)
theorem mc_X5_isKind : MC mX5_isKind := wt4_39
def mX5_adds : MI := (yX5_adds, cX5_adds, 3, (some .int), 1, 21)
theorem mc_X5_adds : MC mX5_adds := wt4_44
def mX5_spotOf : MI := (yX5_spotOf, cX5_spotOf, 2, (some .int), 0, 0)
theorem mc_X5_spotOf : MC mX5_spotOf := wt4_47
def mX5_of : MI := (yX5_of, cX5_of, 3, (some .int), 3, 65)
theorem mc_X5_of : MC mX5_of := wt4_51
def mX5_isSheep : MI := (yX5_isSheep, cX5_isSheep, 2, (some .boolean), 1, 25)
theorem mc_X5_isSheep : MC mX5_isSheep := wt4_55
def mX5_isAsleep : MI := (yX5_isAsleep, cX5_isAsleep, 2, (some .boolean), 2, 43)
theorem mc_X5_isAsleep : MC mX5_isAsleep := wt4_59
def mX5_its : MI := (yX5_its, cX5_its, 3, (some .int), 1, 21)
theorem mc_X5_its : MC mX5_its := wt4_63
def mX5_wakesOf : MI := (yX5_wakesOf, cX5_wakesOf, 3, (some .int), 2, 43)
theorem mc_X5_wakesOf : MC mX5_wakesOf := wt4_67
def mX5_tiresOf : MI := (yX5_tiresOf, cX5_tiresOf, 3, (some .int), 2, 43)
theorem mc_X5_tiresOf : MC mX5_tiresOf := wt4_71
def mX5_set : MI := (yX5_set, cX5_set, 5, (some .int), 2, 46)
theorem mc_X5_set : MC mX5_set := wt4_75
def mX5_turn : MI := (yX5_turn, cX5_turn, 3, (some .int), 2, 46)
theorem mc_X5_turn : MC mX5_turn := wt4_80
def mX5_as : MI := (yX5_as, cX5_as, 3, (some .int), 2, 46)
theorem mc_X5_as : MC mX5_as := wt4_84
def mX5_isUnder : MI := (yX5_isUnder, cX5_isUnder, 2, (some .boolean), 0, 0)
theorem mc_X5_isUnder : MC mX5_isUnder := wt4_87
def mX5_counts : MI := (yX5_counts, cX5_counts, 3, (some .int), 3, 69)
theorem mc_X5_counts : MC mX5_counts := wt4_92
def mX5_countsOf : MI := (yX5_countsOf, cX5_countsOf, 7, (some .int), 2, 43)
theorem mc_X5_countsOf : MC mX5_countsOf := wt4_96
def mX5_ones : MI := (yX5_ones, cX5_ones, 3, (some .int), 0, 0)
theorem mc_X5_ones : MC mX5_ones := wt4_99
def mX5_minutes : MI := (yX5_minutes, cX5_minutes, 2, (some .int), 6, 136)
theorem mc_X5_minutes : MC mX5_minutes := wt4_103
def mX5_minutesGo : MI := (yX5_minutesGo, cX5_minutesGo, 3, none, 5, 114)
theorem mc_X5_minutesGo : MC mX5_minutesGo := wt4_110
def mX5_minute : MI := (yX5_minute, cX5_minute, 2, none, 4, 93)
theorem mc_X5_minute : MC mX5_minute := wt4_114
def mX5_isPassing : MI := (yX5_isPassing, cX5_isPassing, 2, (some .boolean), 2, 43)
theorem mc_X5_isPassing : MC mX5_isPassing := wt4_118
def mX5_passes : MI := (yX5_passes, cX5_passes, 5, none, 3, 69)
theorem mc_X5_passes : MC mX5_passes := wt4_122
def mX5_heldTo : MI := (yX5_heldTo, cX5_heldTo, 2, (some .int), 0, 0)
theorem mc_X5_heldTo : MC mX5_heldTo := wt4_125
def mX5_nobodyPasses : MI := (yX5_nobodyPasses, cX5_nobodyPasses, 2, none, 3, 65)
theorem mc_X5_nobodyPasses : MC mX5_nobodyPasses := wt4_129
def mX5_asleep : MI := (yX5_asleep, cX5_asleep, 3, (some .int), 3, 64)
theorem mc_X5_asleep : MC mX5_asleep := wt4_133
def mX5_now : MI := (yX5_now, cX5_now, 2, (some .int), 4, 86)
theorem mc_X5_now : MC mX5_now := wt4_137
def mX5_together : MI := (yX5_together, cX5_together, 4, (some .int), 2, 43)
theorem mc_X5_together : MC mX5_together := wt4_141
def mX5_wearOf : MI := (yX5_wearOf, cX5_wearOf, 4, (some .int), 2, 43)
theorem mc_X5_wearOf : MC mX5_wearOf := wt4_145
def mX5_passing : MI := (yX5_passing, cX5_passing, 3, (some .int), 3, 64)
theorem mc_X5_passing : MC mX5_passing := wt4_149
def mX5_on : MI := (yX5_on, cX5_on, 4, (some .int), 7, 158)
theorem mc_X5_on : MC mX5_on := wt4_153
def mX5_behind : MI := (yX5_behind, cX5_behind, 3, (some .int), 6, 136)
theorem mc_X5_behind : MC mX5_behind := wt4_157
def mX5_laysAside : MI := (yX5_laysAside, cX5_laysAside, 2, none, 0, 0)
theorem mc_X5_laysAside : MC mX5_laysAside := wt4_161
def mX5_takesBack : MI := (yX5_takesBack, cX5_takesBack, 3, (some .int), 0, 0)
theorem mc_X5_takesBack : MC mX5_takesBack := wt4_165
def mX5_worn : MI := (yX5_worn, cX5_worn, 3, (some .int), 7, 158)
theorem mc_X5_worn : MC mX5_worn := wt4_169
def mX5_sleeps : MI := (yX5_sleeps, cX5_sleeps, 2, (some .int), 6, 138)
theorem mc_X5_sleeps : MC mX5_sleeps := wt4_173
def mX5_firstAs : MI := (yX5_firstAs, cX5_firstAs, 5, (some .int), 5, 114)
theorem mc_X5_firstAs : MC mX5_firstAs := wt4_177
def mX5_orNone : MI := (yX5_orNone, cX5_orNone, 3, (some .int), 1, 21)
theorem mc_X5_orNone : MC mX5_orNone := wt4_181
def mX5_quiet : MI := (yX5_quiet, cX5_quiet, 1, (some .int), 6, 136)
theorem mc_X5_quiet : MC mX5_quiet := wt4_185
def mX5_quietIn : MI := (yX5_quietIn, cX5_quietIn, 3, (some .int), 5, 114)
theorem mc_X5_quietIn : MC mX5_quietIn := wt4_189
def mX5_bare : MI := (yX5_bare, cX5_bare, 2, (some .int), 6, 138)
theorem mc_X5_bare : MC mX5_bare := wt4_193
def mX5_guise : MI := (yX5_guise, cX5_guise, 4, (some .int), 6, 136)
theorem mc_X5_guise : MC mX5_guise := wt4_197
def mX5_begins : MI := (yX5_begins, cX5_begins, 2, none, 0, 0)
theorem mc_X5_begins : MC mX5_begins := wt4_201
def mX5_tries : MI := (yX5_tries, cX5_tries, 3, none, 0, 0)
theorem mc_X5_tries : MC mX5_tries := wt4_205
def mX5_bestOrNone : MI := (yX5_bestOrNone, cX5_bestOrNone, 1, (some .int), 1, 21)
theorem mc_X5_bestOrNone : MC mX5_bestOrNone := wt4_209
def mX5_guises : MI := (yX5_guises, cX5_guises, 6, (some .int), 6, 136)
theorem mc_X5_guises : MC mX5_guises := wt4_213
def mX5_swap : MI := (yX5_swap, cX5_swap, 3, (some .int), 6, 136)
theorem mc_X5_swap : MC mX5_swap := wt4_217
def mX5_swaps : MI := (yX5_swaps, cX5_swaps, 5, none, 2, 43)
theorem mc_X5_swaps : MC mX5_swaps := wt4_221
def mX5_spare : MI := (yX5_spare, cX5_spare, 7, (some .int), 6, 136)
theorem mc_X5_spare : MC mX5_spare := wt4_225
def mX5_kind : MI := (yX5_kind, cX5_kind, 4, (some .int), 6, 138)
theorem mc_X5_kind : MC mX5_kind := wt4_231
def mX5_most : MI := (yX5_most, cX5_most, 7, (some .int), 7, 158)
theorem mc_X5_most : MC mX5_most := wt4_235
def mX5_begin : MI := (yX5_begin, cX5_begin, 3, (some .int), 6, 136)
theorem mc_X5_begin : MC mX5_begin := wt4_239
def mX5_last : MI := (yX5_last, cX5_last, 5, (some .int), 6, 138)
theorem mc_X5_last : MC mX5_last := wt5_3
def mX5_feed : MI := (yX5_feed, cX5_feed, 4, (some .int), 1, 25)
theorem mc_X5_feed : MC mX5_feed := wt5_7
def mX5_wipe : MI := (yX5_wipe, cX5_wipe, 2, (some .int), 0, 0)
theorem mc_X5_wipe : MC mX5_wipe := wt5_12
def mX5_fell : MI := (yX5_fell, cX5_fell, 2, (some .int), 8, 180)
theorem mc_X5_fell : MC mX5_fell := wt5_16
def mX5_saves : MI := (yX5_saves, cX5_saves, 2, none, 0, 0)
theorem mc_X5_saves : MC mX5_saves := wt5_20
def mX5_token : MI := (yX5_token, cX5_token, 3, none, 2, 45)
theorem mc_X5_token : MC mX5_token := wt5_24
def mX5_byteAt : MI := (yX5_byteAt, cX5_byteAt, 2, (some .int), 0, 0)
theorem mc_X5_byteAt : MC mX5_byteAt := wt5_28
def mX5_isLetter : MI := (yX5_isLetter, cX5_isLetter, 1, (some .boolean), 1, 25)
theorem mc_X5_isLetter : MC mX5_isLetter := wt5_31
def mX5_isDigit : MI := (yX5_isDigit, cX5_isDigit, 1, (some .boolean), 1, 25)
theorem mc_X5_isDigit : MC mX5_isDigit := wt5_36
def mX5_item : MI := (yX5_item, cX5_item, 2, none, 7, 159)
theorem mc_X5_item : MC mX5_item := wt5_42
def mX5_kindHere : MI := (yX5_kindHere, cX5_kindHere, 3, (some .int), 3, 68)
theorem mc_X5_kindHere : MC mX5_kindHere := wt5_46
def mX5_word : MI := (yX5_word, cX5_word, 4, (some .long), 2, 45)
theorem mc_X5_word : MC mX5_word := wt5_50
def mX5_sheepItem : MI := (yX5_sheepItem, cX5_sheepItem, 3, none, 6, 137)
theorem mc_X5_sheepItem : MC mX5_sheepItem := wt5_62
def mX5_must : MI := (yX5_must, cX5_must, 2, none, 3, 67)
theorem mc_X5_must : MC mX5_must := wt5_66
def mX5_partItem : MI := (yX5_partItem, cX5_partItem, 5, none, 5, 113)
theorem mc_X5_partItem : MC mX5_partItem := wt5_71
def mX5_number : MI := (yX5_number, cX5_number, 6, none, 4, 88)
theorem mc_X5_number : MC mX5_number := wt5_75
def mX5_manItem : MI := (yX5_manItem, cX5_manItem, 3, none, 6, 137)
theorem mc_X5_manItem : MC mX5_manItem := wt5_80
def mX5_bitHere : MI := (yX5_bitHere, cX5_bitHere, 5, (some .int), 4, 88)
theorem mc_X5_bitHere : MC mX5_bitHere := wt5_85
def mX5_putsBack : MI := (yX5_putsBack, cX5_putsBack, 2, none, 0, 0)
theorem mc_X5_putsBack : MC mX5_putsBack := wt5_92
def mX5_sheet : MI := (yX5_sheet, cX5_sheet, 5, (some .int), 2, 45)
theorem mc_X5_sheet : MC mX5_sheet := wt5_96
def mX5_isOne : MI := (yX5_isOne, cX5_isOne, 1, (some .boolean), 1, 25)
theorem mc_X5_isOne : MC mX5_isOne := wt5_99
def mX5_write : MI := (yX5_write, cX5_write, 8, (some .long), 3, 66)
theorem mc_X5_write : MC mX5_write := wt5_105
def mX5_wrongSheet : MI := (yX5_wrongSheet, cX5_wrongSheet, 2, (some .int), 2, 45)
theorem mc_X5_wrongSheet : MC mX5_wrongSheet := wt5_109
def mX5_narrowed : MI := (yX5_narrowed, cX5_narrowed, 3, (some .long), 0, 0)
theorem mc_X5_narrowed : MC mX5_narrowed := wt5_113
def mX5_copy : MI := (yX5_copy, cX5_copy, 7, (some .int), 2, 45)
theorem mc_X5_copy : MC mX5_copy := wt5_117
def mX5_lays : MI := (yX5_lays, cX5_lays, 6, (some .int), 3, 66)
theorem mc_X5_lays : MC mX5_lays := wt5_121
def mX5_book : MI := (yX5_book, cX5_book, 5, (some .int), 5, 114)
theorem mc_X5_book : MC mX5_book := wt5_125
def mX5_wrongBook : MI := (yX5_wrongBook, cX5_wrongBook, 4, (some .int), 3, 66)
theorem mc_X5_wrongBook : MC mX5_wrongBook := wt5_129
def mX5_read : MI := (yX5_read, cX5_read, 6, (some .int), 6, 137)
theorem mc_X5_read : MC mX5_read := wt5_133
def mX5_isBook : MI := (yX5_isBook, cX5_isBook, 4, (some .boolean), 5, 114)
theorem mc_X5_isBook : MC mX5_isBook := wt5_137
def mX5_image : MI := (yX5_image, cX5_image, 2, (some .int), 0, 0)
theorem mc_X5_image : MC mX5_image := wt5_141
def mX5_undo : MI := (yX5_undo, cX5_undo, 2, (some .int), 1, 21)
theorem mc_X5_undo : MC mX5_undo := wt5_145
def mX5_tear : MI := (yX5_tear, cX5_tear, 2, (some .int), 0, 0)
theorem mc_X5_tear : MC mX5_tear := wt5_149
def mX5_count : MI := (yX5_count, cX5_count, 2, (some .int), 3, 66)
theorem mc_X5_count : MC mX5_count := wt5_153
def mX5_status : MI := (yX5_status, cX5_status, 4, (some .int), 1, 25)
theorem mc_X5_status : MC mX5_status := wt5_157
theorem fl_RX0_29 : FL RX0 29 0 0 := ⟨RX0, TX0, 10, rfl, by decide, inX0, wt1_28⟩
theorem fw_RX0_29 : FW RX0 29 0 0 .int := ⟨RX0, TX0, 10, tyX0, rfl, by decide, inX0, wt1_28, tyX0_ok, nmX0, rfl, by decide +kernel⟩
theorem fl_RX4_125 : FL RX4 125 0 0 := ⟨RX0, TX0, 10, rfl, by decide, inX0, wt1_29⟩
theorem fw_RX4_125 : FW RX4 125 0 0 .int := ⟨RX0, TX0, 10, tyX0, rfl, by decide, inX0, wt1_29, tyX0_ok, nmX0, rfl, by decide +kernel⟩
theorem fl_RX0_7 : FL RX0 7 0 1 := ⟨RX0, TX0, 10, rfl, by decide, inX0, wt1_30⟩
theorem fw_RX0_7 : FW RX0 7 0 1 .int := ⟨RX0, TX0, 10, tyX0, rfl, by decide, inX0, wt1_30, tyX0_ok, nmX0, rfl, by decide +kernel⟩
theorem fl_RX4_119 : FL RX4 119 0 1 := ⟨RX0, TX0, 10, rfl, by decide, inX0, wt1_31⟩
theorem fw_RX4_119 : FW RX4 119 0 1 .int := ⟨RX0, TX0, 10, tyX0, rfl, by decide, inX0, wt1_31, tyX0_ok, nmX0, rfl, by decide +kernel⟩
theorem fl_RX0_32 : FL RX0 32 0 2 := ⟨RX0, TX0, 10, rfl, by decide, inX0, wt1_32⟩
theorem fw_RX0_32 : FW RX0 32 0 2 .int := ⟨RX0, TX0, 10, tyX0, rfl, by decide, inX0, wt1_32, tyX0_ok, nmX0, rfl, by decide +kernel⟩
theorem fl_RX4_71 : FL RX4 71 0 2 := ⟨RX0, TX0, 10, rfl, by decide, inX0, wt1_33⟩
theorem fw_RX4_71 : FW RX4 71 0 2 .int := ⟨RX0, TX0, 10, tyX0, rfl, by decide, inX0, wt1_33, tyX0_ok, nmX0, rfl, by decide +kernel⟩
theorem fl_RX0_35 : FL RX0 35 0 3 := ⟨RX0, TX0, 10, rfl, by decide, inX0, wt1_34⟩
theorem fw_RX0_35 : FW RX0 35 0 3 .int := ⟨RX0, TX0, 10, tyX0, rfl, by decide, inX0, wt1_34, tyX0_ok, nmX0, rfl, by decide +kernel⟩
theorem fl_RX4_75 : FL RX4 75 0 3 := ⟨RX0, TX0, 10, rfl, by decide, inX0, wt1_35⟩
theorem fw_RX4_75 : FW RX4 75 0 3 .int := ⟨RX0, TX0, 10, tyX0, rfl, by decide, inX0, wt1_35, tyX0_ok, nmX0, rfl, by decide +kernel⟩
theorem fl_RX0_13 : FL RX0 13 0 4 := ⟨RX0, TX0, 10, rfl, by decide, inX0, wt1_36⟩
theorem fl_RX4_61 : FL RX4 61 0 4 := ⟨RX0, TX0, 10, rfl, by decide, inX0, wt1_37⟩
theorem fl_RX0_17 : FL RX0 17 0 5 := ⟨RX0, TX0, 10, rfl, by decide, inX0, wt1_38⟩
theorem fl_RX4_64 : FL RX4 64 0 5 := ⟨RX0, TX0, 10, rfl, by decide, inX0, wt1_39⟩
theorem fl_RX0_38 : FL RX0 38 0 6 := ⟨RX0, TX0, 10, rfl, by decide, inX0, wt1_40⟩
theorem fw_RX0_38 : FW RX0 38 0 6 .int := ⟨RX0, TX0, 10, tyX0, rfl, by decide, inX0, wt1_40, tyX0_ok, nmX0, rfl, by decide +kernel⟩
theorem fl_RX4_181 : FL RX4 181 0 6 := ⟨RX0, TX0, 10, rfl, by decide, inX0, wt1_41⟩
theorem fw_RX4_181 : FW RX4 181 0 6 .int := ⟨RX0, TX0, 10, tyX0, rfl, by decide, inX0, wt1_41, tyX0_ok, nmX0, rfl, by decide +kernel⟩
theorem fl_RX0_20 : FL RX0 20 0 7 := ⟨RX0, TX0, 10, rfl, by decide, inX0, wt1_42⟩
theorem fl_RX4_96 : FL RX4 96 0 7 := ⟨RX0, TX0, 10, rfl, by decide, inX0, wt1_43⟩
theorem fl_RX0_23 : FL RX0 23 0 8 := ⟨RX0, TX0, 10, rfl, by decide, inX0, wt1_44⟩
theorem fl_RX4_99 : FL RX4 99 0 8 := ⟨RX0, TX0, 10, rfl, by decide, inX0, wt1_45⟩
theorem fl_RX0_26 : FL RX0 26 0 9 := ⟨RX0, TX0, 10, rfl, by decide, inX0, wt1_46⟩
theorem fl_RX4_102 : FL RX4 102 0 9 := ⟨RX0, TX0, 10, rfl, by decide, inX0, wt1_47⟩
theorem fl_RX3_9 : FL RX3 9 2 0 := ⟨RX3, TX3, 5, rfl, by decide, inX3, wt1_76⟩
theorem fl_RX3_13 : FL RX3 13 2 1 := ⟨RX3, TX3, 5, rfl, by decide, inX3, wt1_77⟩
theorem fw_RX3_13 : FW RX3 13 2 1 .int := ⟨RX3, TX3, 5, tyX3, rfl, by decide, inX3, wt1_77, tyX3_ok, nmX3, rfl, by decide +kernel⟩
theorem fl_RX4_190 : FL RX4 190 2 1 := ⟨RX3, TX3, 5, rfl, by decide, inX3, wt1_78⟩
theorem fw_RX4_190 : FW RX4 190 2 1 .int := ⟨RX3, TX3, 5, tyX3, rfl, by decide, inX3, wt1_78, tyX3_ok, nmX3, rfl, by decide +kernel⟩
theorem fl_RX3_34 : FL RX3 34 2 2 := ⟨RX3, TX3, 5, rfl, by decide, inX3, wt1_79⟩
theorem fw_RX3_34 : FW RX3 34 2 2 .int := ⟨RX3, TX3, 5, tyX3, rfl, by decide, inX3, wt1_79, tyX3_ok, nmX3, rfl, by decide +kernel⟩
theorem fl_RX3_31 : FL RX3 31 2 3 := ⟨RX3, TX3, 5, rfl, by decide, inX3, wt1_80⟩
theorem fw_RX3_31 : FW RX3 31 2 3 .int := ⟨RX3, TX3, 5, tyX3, rfl, by decide, inX3, wt1_80, tyX3_ok, nmX3, rfl, by decide +kernel⟩
theorem fl_RX3_21 : FL RX3 21 2 4 := ⟨RX3, TX3, 5, rfl, by decide, inX3, wt1_81⟩
theorem fw_RX3_21 : FW RX3 21 2 4 .int := ⟨RX3, TX3, 5, tyX3, rfl, by decide, inX3, wt1_81, tyX3_ok, nmX3, rfl, by decide +kernel⟩
theorem fl_RX2_13 : FL RX2 13 1 0 := ⟨RX2, TX2, 3, rfl, by decide, inX2, wt1_100⟩
theorem fw_RX2_13 : FW RX2 13 1 0 .int := ⟨RX2, TX2, 3, tyX2, rfl, by decide, inX2, wt1_100, tyX2_ok, nmX2, rfl, by decide +kernel⟩
theorem fl_RX4_227 : FL RX4 227 1 0 := ⟨RX2, TX2, 3, rfl, by decide, inX2, wt1_101⟩
theorem fw_RX4_227 : FW RX4 227 1 0 .int := ⟨RX2, TX2, 3, tyX2, rfl, by decide, inX2, wt1_101, tyX2_ok, nmX2, rfl, by decide +kernel⟩
theorem fl_RX2_17 : FL RX2 17 1 1 := ⟨RX2, TX2, 3, rfl, by decide, inX2, wt1_102⟩
theorem fw_RX2_17 : FW RX2 17 1 1 .int := ⟨RX2, TX2, 3, tyX2, rfl, by decide, inX2, wt1_102, tyX2_ok, nmX2, rfl, by decide +kernel⟩
theorem fl_RX4_211 : FL RX4 211 1 1 := ⟨RX2, TX2, 3, rfl, by decide, inX2, wt1_103⟩
theorem fw_RX4_211 : FW RX4 211 1 1 .int := ⟨RX2, TX2, 3, tyX2, rfl, by decide, inX2, wt1_103, tyX2_ok, nmX2, rfl, by decide +kernel⟩
theorem fl_RX2_9 : FL RX2 9 1 2 := ⟨RX2, TX2, 3, rfl, by decide, inX2, wt1_104⟩
theorem fl_RX4_215 : FL RX4 215 1 2 := ⟨RX2, TX2, 3, rfl, by decide, inX2, wt1_105⟩
theorem fl_RX4_10 : FL RX4 10 3 0 := ⟨RX4, TX4, 7, rfl, by decide, inX4, wt1_114⟩
theorem fl_RX4_16 : FL RX4 16 3 1 := ⟨RX4, TX4, 7, rfl, by decide, inX4, wt1_115⟩
theorem fl_RX4_19 : FL RX4 19 3 2 := ⟨RX4, TX4, 7, rfl, by decide, inX4, wt1_116⟩
theorem fl_RX4_245 : FL RX4 245 3 3 := ⟨RX4, TX4, 7, rfl, by decide, inX4, wt1_117⟩
theorem fw_RX4_245 : FW RX4 245 3 3 .boolean := ⟨RX4, TX4, 7, tyX4, rfl, by decide, inX4, wt1_117, tyX4_ok, nmX4, rfl, by decide +kernel⟩
theorem fl_RX4_25 : FL RX4 25 3 4 := ⟨RX4, TX4, 7, rfl, by decide, inX4, wt1_118⟩
theorem fl_RX4_32 : FL RX4 32 3 5 := ⟨RX4, TX4, 7, rfl, by decide, inX4, wt1_119⟩
theorem fl_RX4_36 : FL RX4 36 3 6 := ⟨RX4, TX4, 7, rfl, by decide, inX4, wt1_120⟩
theorem ml_RL_13 : ML RL 13 yX4_man 1 := ⟨wt1_136, wt1_137, wt1_138, wt1_1, ⟨by decide +kernel, by decide +kernel, by decide +kernel⟩⟩
theorem ms_RX4_40 : MS RX4 40 yX4_isGuise 1 := ⟨wt1_140, wt1_141, wt1_1, ⟨by decide +kernel, by decide +kernel, by decide +kernel⟩⟩
theorem ms_RX4_67 : MS RX4 67 yX4_isWithin 3 := ⟨wt1_143, wt1_144, wt1_1, ⟨by decide +kernel, by decide +kernel, by decide +kernel⟩⟩
theorem ml_RX4_45 : ML RX4 45 yX4_tell 1 := ⟨wt1_147, wt1_149, wp0, wt1_1, ⟨by decide +kernel, by decide +kernel, by decide +kernel⟩⟩
theorem ml_RX4_49 : ML RX4 49 yX0_hasRoomForMan 0 := ⟨wt1_151, wt1_152, wt1_153, wt1_2, ⟨by decide +kernel, by decide +kernel, by decide +kernel⟩⟩
theorem ml_RX4_54 : ML RX4 54 yX0_addMan 2 := ⟨wt1_156, wt1_157, wt1_158, wt1_2, ⟨by decide +kernel, by decide +kernel, by decide +kernel⟩⟩
theorem ml_RX0_41 : ML RX0 41 yX0_hasRoomForMan 0 := ⟨wt1_160, wt1_152, wt1_153, wt1_2, ⟨by decide +kernel, by decide +kernel, by decide +kernel⟩⟩
theorem ml_RL_18 : ML RL 18 yX4_manOf 2 := ⟨wt1_161, wt1_162, wt1_163, wt1_1, ⟨by decide +kernel, by decide +kernel, by decide +kernel⟩⟩
theorem ml_RX4_58 : ML RX4 58 yX0_hasMan 1 := ⟨wt1_165, wt1_166, wt1_167, wt1_2, ⟨by decide +kernel, by decide +kernel, by decide +kernel⟩⟩
theorem ml_RL_23 : ML RL 23 yX4_dress 3 := ⟨wt1_169, wt1_170, wt1_171, wt1_1, ⟨by decide +kernel, by decide +kernel, by decide +kernel⟩⟩
theorem ml_RL_28 : ML RL 28 yX4_first 1 := ⟨wt1_173, wt1_174, wt1_175, wt1_1, ⟨by decide +kernel, by decide +kernel, by decide +kernel⟩⟩
theorem ml_RL_32 : ML RL 32 yX4_goesHome 0 := ⟨wt1_177, wt1_178, wt1_179, wt1_1, ⟨by decide +kernel, by decide +kernel, by decide +kernel⟩⟩
theorem ml_RX4_79 : ML RX4 79 yX0_dropLastMan 0 := ⟨wt1_182, wt1_183, wt1_184, wt1_2, ⟨by decide +kernel, by decide +kernel, by decide +kernel⟩⟩
theorem ml_RL_37 : ML RL 37 yX4_sheep 1 := ⟨wt1_186, wt1_187, wt1_188, wt1_1, ⟨by decide +kernel, by decide +kernel, by decide +kernel⟩⟩
theorem ms_RX4_82 : MS RX4 82 yX1_isKind 1 := ⟨wt1_190, wt1_191, wt1_6, ⟨by decide +kernel, by decide +kernel, by decide +kernel⟩⟩
theorem ml_RX4_87 : ML RX4 87 yX0_hasRoomForSheep 0 := ⟨wt1_193, wt1_194, wt1_195, wt1_2, ⟨by decide +kernel, by decide +kernel, by decide +kernel⟩⟩
theorem ml_RX4_90 : ML RX4 90 yX0_addSheep 2 := ⟨wt1_197, wt1_198, wt1_199, wt1_2, ⟨by decide +kernel, by decide +kernel, by decide +kernel⟩⟩
theorem ml_RX0_45 : ML RX0 45 yX0_hasRoomForSheep 0 := ⟨wt1_201, wt1_194, wt1_195, wt1_2, ⟨by decide +kernel, by decide +kernel, by decide +kernel⟩⟩
theorem ml_RL_41 : ML RL 41 yX4_of 2 := ⟨wt1_202, wt1_203, wt1_204, wt1_1, ⟨by decide +kernel, by decide +kernel, by decide +kernel⟩⟩
theorem ml_RX4_93 : ML RX4 93 yX0_hasSheep 1 := ⟨wt1_206, wt1_207, wt1_208, wt1_2, ⟨by decide +kernel, by decide +kernel, by decide +kernel⟩⟩
theorem ml_RX4_105 : ML RX4 105 yX0_isAsleep 1 := ⟨wt1_210, wt1_211, wt1_212, wt1_2, ⟨by decide +kernel, by decide +kernel, by decide +kernel⟩⟩
theorem ms_RX4_108 : MS RX4 108 yX1_wakesBy 1 := ⟨wt1_214, wt1_215, wt1_6, ⟨by decide +kernel, by decide +kernel, by decide +kernel⟩⟩
theorem ms_RX1_21 : MS RX1 21 yX1_isKind 1 := ⟨wt1_217, wt1_191, wt1_6, ⟨by decide +kernel, by decide +kernel, by decide +kernel⟩⟩
theorem ms_RX4_111 : MS RX4 111 yX1_tiresBy 1 := ⟨wt1_220, wt1_221, wt1_6, ⟨by decide +kernel, by decide +kernel, by decide +kernel⟩⟩
theorem ml_RL_45 : ML RL 45 yX4_set 3 := ⟨wt1_225, wt1_226, wt1_227, wt1_1, ⟨by decide +kernel, by decide +kernel, by decide +kernel⟩⟩
theorem ml_RL_49 : ML RL 49 yX4_turn 2 := ⟨wt1_229, wt1_230, wt1_231, wt1_1, ⟨by decide +kernel, by decide +kernel, by decide +kernel⟩⟩
theorem ml_RL_53 : ML RL 53 yX4_as 2 := ⟨wt1_233, wt1_234, wt1_235, wt1_1, ⟨by decide +kernel, by decide +kernel, by decide +kernel⟩⟩
theorem ms_RX4_114 : MS RX4 114 yX1_isOf 2 := ⟨wt1_237, wt1_238, wt1_6, ⟨by decide +kernel, by decide +kernel, by decide +kernel⟩⟩
theorem ml_RL_57 : ML RL 57 yX4_counts 2 := ⟨wt2_3, wt2_4, wt2_5, wt1_1, ⟨by decide +kernel, by decide +kernel, by decide +kernel⟩⟩
theorem ms_RX4_122 : MS RX4 122 yX1_unlike 2 := ⟨wt2_7, wt2_8, wt1_6, ⟨by decide +kernel, by decide +kernel, by decide +kernel⟩⟩
theorem ms_RX1_35 : MS RX1 35 yJ6_bitCount_0f7a4 1 := ⟨wt2_10, wt2_11, wt1_7, ⟨by decide +kernel, by decide +kernel, by decide +kernel⟩⟩
theorem ms_RX4_128 : MS RX4 128 yX1_takesOff 4 := ⟨wt2_16, wt2_17, wt1_6, ⟨by decide +kernel, by decide +kernel, by decide +kernel⟩⟩
theorem ml_RL_61 : ML RL 61 yX4_minutes 1 := ⟨wt2_22, wt2_23, wt2_24, wt1_1, ⟨by decide +kernel, by decide +kernel, by decide +kernel⟩⟩
theorem ml_RX4_134 : ML RX4 134 yX0_play 1 := ⟨wt2_28, wt2_29, wt2_30, wt1_2, ⟨by decide +kernel, by decide +kernel, by decide +kernel⟩⟩
theorem ml_RX0_59 : ML RX0 59 yX0_playMinute 0 := ⟨wt2_32, wt2_34, wp1, wt1_2, ⟨by decide +kernel, by decide +kernel, by decide +kernel⟩⟩
theorem ml_RX0_62 : ML RX0 62 yX0_hasMan 1 := ⟨wt2_36, wt1_166, wt1_167, wt1_2, ⟨by decide +kernel, by decide +kernel, by decide +kernel⟩⟩
theorem ml_RX0_56 : ML RX0 56 yX0_canPass 1 := ⟨wt2_37, wt2_38, wt2_39, wt1_2, ⟨by decide +kernel, by decide +kernel, by decide +kernel⟩⟩
theorem ml_RX0_65 : ML RX0 65 yX0_pass 1 := ⟨wt2_41, wt2_43, wp2, wt1_2, ⟨by decide +kernel, by decide +kernel, by decide +kernel⟩⟩
theorem ms_RX0_72 : MS RX0 72 yX1_unlike 2 := ⟨wt2_45, wt2_8, wt1_6, ⟨by decide +kernel, by decide +kernel, by decide +kernel⟩⟩
theorem ml_RX0_52 : ML RX0 52 yX0_isAsleep 1 := ⟨wt2_46, wt1_211, wt1_212, wt1_2, ⟨by decide +kernel, by decide +kernel, by decide +kernel⟩⟩
theorem ms_RX0_78 : MS RX0 78 yX1_takesOff 4 := ⟨wt2_47, wt2_17, wt1_6, ⟨by decide +kernel, by decide +kernel, by decide +kernel⟩⟩
theorem ms_RX0_90 : MS RX0 90 yX1_tiresBy 1 := ⟨wt2_52, wt1_221, wt1_6, ⟨by decide +kernel, by decide +kernel, by decide +kernel⟩⟩
theorem ml_RX0_69 : ML RX0 69 yX0_stayAlone 0 := ⟨wt2_53, wt2_55, wp3, wt1_2, ⟨by decide +kernel, by decide +kernel, by decide +kernel⟩⟩
theorem ms_RX0_94 : MS RX0 94 yX1_wakesBy 1 := ⟨wt2_57, wt1_215, wt1_6, ⟨by decide +kernel, by decide +kernel, by decide +kernel⟩⟩
theorem ml_RX4_138 : ML RX4 138 yX0_sleepers 0 := ⟨wt2_58, wt2_59, wt2_60, wt1_2, ⟨by decide +kernel, by decide +kernel, by decide +kernel⟩⟩
theorem ml_RL_65 : ML RL 65 yX4_now 1 := ⟨wt2_62, wt2_63, wt2_64, wt1_1, ⟨by decide +kernel, by decide +kernel, by decide +kernel⟩⟩
theorem ml_RX4_142 : ML RX4 142 yX0_wantsOfAll 0 := ⟨wt2_66, wt2_67, wt2_68, wt1_2, ⟨by decide +kernel, by decide +kernel, by decide +kernel⟩⟩
theorem ml_RX4_145 : ML RX4 145 yX0_wearWithout 1 := ⟨wt2_70, wt2_71, wt2_72, wt1_2, ⟨by decide +kernel, by decide +kernel, by decide +kernel⟩⟩
theorem ms_RX0_48 : MS RX0 48 yX0_isIn 2 := ⟨wt2_74, wt2_75, wt1_2, ⟨by decide +kernel, by decide +kernel, by decide +kernel⟩⟩
theorem ml_RX4_148 : ML RX4 148 yX0_passers 0 := ⟨wt2_77, wt2_78, wt2_79, wt1_2, ⟨by decide +kernel, by decide +kernel, by decide +kernel⟩⟩
theorem ml_RL_69 : ML RL 69 yX4_on 3 := ⟨wt2_81, wt2_82, wt2_83, wt1_1, ⟨by decide +kernel, by decide +kernel, by decide +kernel⟩⟩
theorem ml_RX4_151 : ML RX4 151 yX4_startTrial 0 := ⟨wt2_85, wt2_87, wp4, wt1_1, ⟨by decide +kernel, by decide +kernel, by decide +kernel⟩⟩
theorem ml_RX4_197 : ML RX4 197 yX0_becomes 1 := ⟨wt2_89, wt2_90, wt2_91, wt1_2, ⟨by decide +kernel, by decide +kernel, by decide +kernel⟩⟩
theorem ml_RL_73 : ML RL 73 yX4_worn 2 := ⟨wt2_93, wt2_94, wt2_95, wt1_1, ⟨by decide +kernel, by decide +kernel, by decide +kernel⟩⟩
theorem ml_RL_77 : ML RL 77 yX4_sleeps 1 := ⟨wt2_97, wt2_98, wt2_99, wt1_1, ⟨by decide +kernel, by decide +kernel, by decide +kernel⟩⟩
theorem ml_RX4_154 : ML RX4 154 yX0_playTillAsleep 2 := ⟨wt2_101, wt2_102, wt2_103, wt1_2, ⟨by decide +kernel, by decide +kernel, by decide +kernel⟩⟩
theorem ml_RX4_157 : ML RX4 157 yX4_withinWait 1 := ⟨wt2_105, wt2_107, wp5, wt1_1, ⟨by decide +kernel, by decide +kernel, by decide +kernel⟩⟩
theorem ml_RL_81 : ML RL 81 yX4_quiet 0 := ⟨wt2_109, wt2_110, wt2_111, wt1_1, ⟨by decide +kernel, by decide +kernel, by decide +kernel⟩⟩
theorem ml_RX4_160 : ML RX4 160 yX0_playTillQuiet 1 := ⟨wt2_113, wt2_114, wt2_115, wt1_2, ⟨by decide +kernel, by decide +kernel, by decide +kernel⟩⟩
theorem ml_RX0_97 : ML RX0 97 yX0_isQuiet 0 := ⟨wt2_117, wt2_118, wt2_119, wt1_2, ⟨by decide +kernel, by decide +kernel, by decide +kernel⟩⟩
theorem ml_RL_85 : ML RL 85 yX4_bare 1 := ⟨wt2_121, wt2_122, wt2_123, wt1_1, ⟨by decide +kernel, by decide +kernel, by decide +kernel⟩⟩
theorem ml_RX4_163 : ML RX4 163 yX0_playTillBare 2 := ⟨wt2_125, wt2_126, wt2_127, wt1_2, ⟨by decide +kernel, by decide +kernel, by decide +kernel⟩⟩
theorem ml_RL_89 : ML RL 89 yX4_guise 1 := ⟨wt2_129, wt2_130, wt2_131, wt1_1, ⟨by decide +kernel, by decide +kernel, by decide +kernel⟩⟩
theorem ml_RX4_166 : ML RX4 166 yX4_answer 1 := ⟨wt2_133, wt2_135, wp6, wt1_1, ⟨by decide +kernel, by decide +kernel, by decide +kernel⟩⟩
theorem ml_RL_93 : ML RL 93 yX4_guises 2 := ⟨wt2_137, wt2_138, wt2_139, wt1_1, ⟨by decide +kernel, by decide +kernel, by decide +kernel⟩⟩
theorem ml_RL_97 : ML RL 97 yX4_swap 0 := ⟨wt2_141, wt2_142, wt2_143, wt1_1, ⟨by decide +kernel, by decide +kernel, by decide +kernel⟩⟩
theorem ml_RX4_169 : ML RX4 169 yX0_exchange 2 := ⟨wt2_145, wt2_146, wt2_147, wt1_2, ⟨by decide +kernel, by decide +kernel, by decide +kernel⟩⟩
theorem ml_RL_101 : ML RL 101 yX4_spare 2 := ⟨wt2_149, wt2_150, wt2_151, wt1_1, ⟨by decide +kernel, by decide +kernel, by decide +kernel⟩⟩
theorem ms_RX4_173 : MS RX4 173 yJ6_bitCount_0f7a4 1 := ⟨wt2_153, wt2_11, wt1_7, ⟨by decide +kernel, by decide +kernel, by decide +kernel⟩⟩
theorem ml_RX4_178 : ML RX4 178 yX4_wearWhenOut 2 := ⟨wt2_154, wt2_156, wp7, wt1_1, ⟨by decide +kernel, by decide +kernel, by decide +kernel⟩⟩
theorem ml_RX4_252 : ML RX4 252 yX0_wearOut 1 := ⟨wt2_158, wt2_159, wt2_160, wt1_2, ⟨by decide +kernel, by decide +kernel, by decide +kernel⟩⟩
theorem ml_RL_105 : ML RL 105 yX4_kind 1 := ⟨wt2_162, wt2_163, wt2_164, wt1_1, ⟨by decide +kernel, by decide +kernel, by decide +kernel⟩⟩
theorem ml_RL_109 : ML RL 109 yX4_most 2 := ⟨wt2_166, wt2_167, wt2_168, wt1_1, ⟨by decide +kernel, by decide +kernel, by decide +kernel⟩⟩
theorem ml_RL_113 : ML RL 113 yX4_begin 1 := ⟨wt2_170, wt2_171, wt2_172, wt1_1, ⟨by decide +kernel, by decide +kernel, by decide +kernel⟩⟩
theorem ml_RL_117 : ML RL 117 yX4_last 0 := ⟨wt2_174, wt2_175, wt2_176, wt1_1, ⟨by decide +kernel, by decide +kernel, by decide +kernel⟩⟩
theorem ml_RL_121 : ML RL 121 yX4_feed 2 := ⟨wt2_178, wt2_179, wt2_180, wt1_1, ⟨by decide +kernel, by decide +kernel, by decide +kernel⟩⟩
theorem ml_RX4_184 : ML RX4 184 yX3_hasRoomFor 1 := ⟨wt2_182, wt2_183, wt2_184, wt1_3, ⟨by decide +kernel, by decide +kernel, by decide +kernel⟩⟩
theorem ml_RX4_187 : ML RX4 187 yX3_append 1 := ⟨wt2_186, wt2_187, wt2_188, wt1_3, ⟨by decide +kernel, by decide +kernel, by decide +kernel⟩⟩
theorem ml_RX3_17 : ML RX3 17 yX3_hasRoomFor 1 := ⟨wt2_190, wt2_183, wt2_184, wt1_3, ⟨by decide +kernel, by decide +kernel, by decide +kernel⟩⟩
theorem ml_RL_125 : ML RL 125 yX4_wipe 0 := ⟨wt2_191, wt2_192, wt2_193, wt1_1, ⟨by decide +kernel, by decide +kernel, by decide +kernel⟩⟩
theorem ml_RL_129 : ML RL 129 yX4_fell 0 := ⟨wt2_195, wt2_196, wt2_197, wt1_1, ⟨by decide +kernel, by decide +kernel, by decide +kernel⟩⟩
theorem ml_RX4_193 : ML RX4 193 yX3_tellInto 1 := ⟨wt2_199, wt2_200, wt2_201, wt1_3, ⟨by decide +kernel, by decide +kernel, by decide +kernel⟩⟩
theorem ml_RX3_24 : ML RX3 24 yX3_nextToken 0 := ⟨wt2_203, wt2_205, wp8, wt1_3, ⟨by decide +kernel, by decide +kernel, by decide +kernel⟩⟩
theorem ml_RX3_107 : ML RX3 107 yX3_sortAt 1 := ⟨wt2_207, wt2_209, wp9, wt1_3, ⟨by decide +kernel, by decide +kernel, by decide +kernel⟩⟩
theorem ml_RX3_27 : ML RX3 27 yX3_takeItem 1 := ⟨wt2_212, wt2_214, wp10, wt1_3, ⟨by decide +kernel, by decide +kernel, by decide +kernel⟩⟩
theorem ml_RX3_39 : ML RX3 39 yX3_isWord 1 := ⟨wt2_217, wt2_219, wp11, wt1_3, ⟨by decide +kernel, by decide +kernel, by decide +kernel⟩⟩
theorem ml_RX3_99 : ML RX3 99 yJ0_length_8abf5 0 := ⟨wt2_221, wt2_222, wt2_223, wt1_9, ⟨by decide +kernel, by decide +kernel, by decide +kernel⟩⟩
theorem ml_RJ0_335 : ML RJ0 335 yJ0_coder_7d493 0 := ⟨wt2_225, wt2_226, wt2_227, wt1_9, ⟨by decide +kernel, by decide +kernel, by decide +kernel⟩⟩
theorem ml_RX3_103 : ML RX3 103 yJ0_charAt_5068e 1 := ⟨wt2_231, wt2_232, wt2_233, wt1_9, ⟨by decide +kernel, by decide +kernel, by decide +kernel⟩⟩
theorem ml_RJ0_492 : ML RJ0 492 yJ0_isLatin1_aae02 0 := ⟨wt2_235, wt2_236, wt2_237, wt1_9, ⟨by decide +kernel, by decide +kernel, by decide +kernel⟩⟩
theorem ms_RJ0_495 : MS RJ0 495 yJ1_charAt_3b067 2 := ⟨wt2_239, wt3_0, wt1_10, ⟨by decide +kernel, by decide +kernel, by decide +kernel⟩⟩
theorem ms_RJ1_9 : MS RJ1 9 yJ0_checkIndex_df160 2 := ⟨wt3_2, wt3_3, wt1_9, ⟨by decide +kernel, by decide +kernel, by decide +kernel⟩⟩
theorem ms_RJ0_1059 : MS RJ0 1059 yJ3_checkIndex_8e157 3 := ⟨wt3_7, wt3_8, wt1_11, ⟨by decide +kernel, by decide +kernel, by decide +kernel⟩⟩
theorem ms_RJ0_498 : MS RJ0 498 yJ2_charAt_3b067 2 := ⟨wt3_10, wt3_11, wt1_12, ⟨by decide +kernel, by decide +kernel, by decide +kernel⟩⟩
theorem ms_RJ2_67 : MS RJ2 67 yJ2_checkIndex_2214a 2 := ⟨wt3_13, wt3_14, wt1_12, ⟨by decide +kernel, by decide +kernel, by decide +kernel⟩⟩
theorem ms_RJ2_48 : MS RJ2 48 yJ2_length_9d52b 1 := ⟨wt3_16, wt3_17, wt1_12, ⟨by decide +kernel, by decide +kernel, by decide +kernel⟩⟩
theorem ms_RJ2_414 : MS RJ2 414 yJ0_checkIndex_df160 2 := ⟨wt3_19, wt3_3, wt1_9, ⟨by decide +kernel, by decide +kernel, by decide +kernel⟩⟩
theorem ms_RJ2_71 : MS RJ2 71 yJ2_getChar_3b067 2 := ⟨wt3_20, wt3_21, wt1_12, ⟨by decide +kernel, by decide +kernel, by decide +kernel⟩⟩
theorem ml_RX3_43 : ML RX3 43 yX0_hasRoomForMan 0 := ⟨wt3_29, wt1_152, wt1_153, wt1_2, ⟨by decide +kernel, by decide +kernel, by decide +kernel⟩⟩
theorem ml_RX3_49 : ML RX3 49 yX3_takeMan 1 := ⟨wt3_30, wt3_32, wp12, wt1_3, ⟨by decide +kernel, by decide +kernel, by decide +kernel⟩⟩
theorem ml_RX3_80 : ML RX3 80 yX3_takeWord 1 := ⟨wt3_35, wt3_37, wp13, wt1_3, ⟨by decide +kernel, by decide +kernel, by decide +kernel⟩⟩
theorem ml_RX3_70 : ML RX3 70 yX3_takeNumberAfter 3 := ⟨wt3_42, wt3_44, wp14, wt1_3, ⟨by decide +kernel, by decide +kernel, by decide +kernel⟩⟩
theorem ml_RX3_92 : ML RX3 92 yX3_numberHere 0 := ⟨wt3_46, wt3_48, wp15, wt1_3, ⟨by decide +kernel, by decide +kernel, by decide +kernel⟩⟩
theorem ml_RX3_89 : ML RX3 89 yX0_addMan 2 := ⟨wt3_50, wt1_157, wt1_158, wt1_2, ⟨by decide +kernel, by decide +kernel, by decide +kernel⟩⟩
theorem ml_RX3_52 : ML RX3 52 yX3_kindNamed 0 := ⟨wt3_51, wt3_53, wp16, wt1_3, ⟨by decide +kernel, by decide +kernel, by decide +kernel⟩⟩
theorem ms_RX3_95 : MS RX3 95 yX1_nameOf 1 := ⟨wt3_55, wt3_56, wt1_6, ⟨by decide +kernel, by decide +kernel, by decide +kernel⟩⟩
theorem ms_RX3_56 : MS RX3 56 yX1_isKind 1 := ⟨wt3_64, wt1_191, wt1_6, ⟨by decide +kernel, by decide +kernel, by decide +kernel⟩⟩
theorem ml_RX3_61 : ML RX3 61 yX0_hasRoomForSheep 0 := ⟨wt3_65, wt1_194, wt1_195, wt1_2, ⟨by decide +kernel, by decide +kernel, by decide +kernel⟩⟩
theorem ml_RX3_64 : ML RX3 64 yX3_takeSheep 2 := ⟨wt3_66, wt3_68, wp17, wt1_3, ⟨by decide +kernel, by decide +kernel, by decide +kernel⟩⟩
theorem ml_RX3_74 : ML RX3 74 yX0_addSheep 2 := ⟨wt3_71, wt1_198, wt1_199, wt1_2, ⟨by decide +kernel, by decide +kernel, by decide +kernel⟩⟩
theorem ml_RL_133 : ML RL 133 yX4_sheet 3 := ⟨wt3_73, wt3_74, wt3_75, wt1_1, ⟨by decide +kernel, by decide +kernel, by decide +kernel⟩⟩
theorem ml_RX4_201 : ML RX4 201 yX4_isSheet 1 := ⟨wt3_77, wt3_79, wp18, wt1_1, ⟨by decide +kernel, by decide +kernel, by decide +kernel⟩⟩
theorem ms_RX4_204 : MS RX4 204 yX2_isWidth 1 := ⟨wt3_81, wt3_82, wt1_4, ⟨by decide +kernel, by decide +kernel, by decide +kernel⟩⟩
theorem ml_RX4_208 : ML RX4 208 yX2_ruleAnew 2 := ⟨wt3_85, wt3_86, wt3_87, wt1_4, ⟨by decide +kernel, by decide +kernel, by decide +kernel⟩⟩
theorem ml_RL_139 : ML RL 139 yX4_write 3 := ⟨wt3_89, wt3_90, wt3_91, wt1_1, ⟨by decide +kernel, by decide +kernel, by decide +kernel⟩⟩
theorem ml_RX4_212 : ML RX4 212 yX4_missingSheet 1 := ⟨wt3_93, wt3_95, wp19, wt1_1, ⟨by decide +kernel, by decide +kernel, by decide +kernel⟩⟩
theorem ml_RX4_223 : ML RX4 223 yX2_isMissing 0 := ⟨wt3_97, wt3_98, wt3_99, wt1_4, ⟨by decide +kernel, by decide +kernel, by decide +kernel⟩⟩
theorem ml_RX4_219 : ML RX4 219 yX2_put 2 := ⟨wt3_102, wt3_103, wt3_104, wt1_4, ⟨by decide +kernel, by decide +kernel, by decide +kernel⟩⟩
theorem ml_RL_144 : ML RL 144 yX4_copy 5 := ⟨wt3_106, wt3_107, wt3_108, wt1_1, ⟨by decide +kernel, by decide +kernel, by decide +kernel⟩⟩
theorem ml_RX4_230 : ML RX4 230 yX2_hasRun 2 := ⟨wt3_110, wt3_111, wt3_112, wt1_4, ⟨by decide +kernel, by decide +kernel, by decide +kernel⟩⟩
theorem ml_RL_149 : ML RL 149 yX4_lays 1 := ⟨wt3_117, wt3_118, wt3_119, wt1_1, ⟨by decide +kernel, by decide +kernel, by decide +kernel⟩⟩
theorem ml_RL_153 : ML RL 153 yX4_book 2 := ⟨wt3_122, wt3_123, wt3_124, wt1_1, ⟨by decide +kernel, by decide +kernel, by decide +kernel⟩⟩
theorem ml_RL_157 : ML RL 157 yX4_read 2 := ⟨wt3_126, wt3_127, wt3_128, wt1_1, ⟨by decide +kernel, by decide +kernel, by decide +kernel⟩⟩
theorem ml_RX4_241 : ML RX4 241 yX4_trialSees 2 := ⟨wt3_130, wt3_132, wp20, wt1_1, ⟨by decide +kernel, by decide +kernel, by decide +kernel⟩⟩
theorem ml_RL_161 : ML RL 161 yX4_image 0 := ⟨wt3_134, wt3_135, wt3_136, wt1_1, ⟨by decide +kernel, by decide +kernel, by decide +kernel⟩⟩
theorem ml_RL_165 : ML RL 165 yX4_undo 0 := ⟨wt3_138, wt3_139, wt3_140, wt1_1, ⟨by decide +kernel, by decide +kernel, by decide +kernel⟩⟩
theorem ml_RL_169 : ML RL 169 yX4_tear 0 := ⟨wt3_142, wt3_143, wt3_144, wt1_1, ⟨by decide +kernel, by decide +kernel, by decide +kernel⟩⟩
theorem ml_RL_173 : ML RL 173 yX4_count 1 := ⟨wt3_146, wt3_147, wt3_148, wt1_1, ⟨by decide +kernel, by decide +kernel, by decide +kernel⟩⟩
theorem ml_RX4_249 : ML RX4 249 yX0_seenByAll 0 := ⟨wt3_150, wt3_151, wt3_152, wt1_2, ⟨by decide +kernel, by decide +kernel, by decide +kernel⟩⟩
theorem ml_RL_177 : ML RL 177 yX4_status 1 := ⟨wt3_154, wt3_155, wt3_156, wt1_1, ⟨by decide +kernel, by decide +kernel, by decide +kernel⟩⟩
theorem fl_RX5_7 : FL RX5 7 4 0 := ⟨RX5, TX5, 18, rfl, by decide, inX5, wt3_164⟩
theorem fl_RX5_13 : FL RX5 13 4 1 := ⟨RX5, TX5, 18, rfl, by decide, inX5, wt3_165⟩
theorem fl_RX5_16 : FL RX5 16 4 2 := ⟨RX5, TX5, 18, rfl, by decide, inX5, wt3_166⟩
theorem fl_RX5_19 : FL RX5 19 4 3 := ⟨RX5, TX5, 18, rfl, by decide, inX5, wt3_167⟩
theorem fl_RX5_22 : FL RX5 22 4 4 := ⟨RX5, TX5, 18, rfl, by decide, inX5, wt3_168⟩
theorem fl_RX5_317 : FL RX5 317 4 5 := ⟨RX5, TX5, 18, rfl, by decide, inX5, wt3_169⟩
theorem fw_RX5_317 : FW RX5 317 4 5 .boolean := ⟨RX5, TX5, 18, tyX5, rfl, by decide, inX5, wt3_169, tyX5_ok, nmX5, rfl, by decide +kernel⟩
theorem fl_RX5_170 : FL RX5 170 4 6 := ⟨RX5, TX5, 18, rfl, by decide, inX5, wt3_170⟩
theorem fw_RX5_170 : FW RX5 170 4 6 .int := ⟨RX5, TX5, 18, tyX5, rfl, by decide, inX5, wt3_170, tyX5_ok, nmX5, rfl, by decide +kernel⟩
theorem fl_RX5_174 : FL RX5 174 4 7 := ⟨RX5, TX5, 18, rfl, by decide, inX5, wt3_171⟩
theorem fw_RX5_174 : FW RX5 174 4 7 .int := ⟨RX5, TX5, 18, tyX5, rfl, by decide, inX5, wt3_171, tyX5_ok, nmX5, rfl, by decide +kernel⟩
theorem fl_RX5_25 : FL RX5 25 4 8 := ⟨RX5, TX5, 18, rfl, by decide, inX5, wt3_172⟩
theorem fl_RX5_196 : FL RX5 196 4 9 := ⟨RX5, TX5, 18, rfl, by decide, inX5, wt3_173⟩
theorem fw_RX5_196 : FW RX5 196 4 9 .int := ⟨RX5, TX5, 18, tyX5, rfl, by decide, inX5, wt3_173, tyX5_ok, nmX5, rfl, by decide +kernel⟩
theorem fl_RX5_210 : FL RX5 210 4 10 := ⟨RX5, TX5, 18, rfl, by decide, inX5, wt3_174⟩
theorem fw_RX5_210 : FW RX5 210 4 10 .int := ⟨RX5, TX5, 18, tyX5, rfl, by decide, inX5, wt3_174, tyX5_ok, nmX5, rfl, by decide +kernel⟩
theorem fl_RX5_207 : FL RX5 207 4 11 := ⟨RX5, TX5, 18, rfl, by decide, inX5, wt3_175⟩
theorem fw_RX5_207 : FW RX5 207 4 11 .int := ⟨RX5, TX5, 18, tyX5, rfl, by decide, inX5, wt3_175, tyX5_ok, nmX5, rfl, by decide +kernel⟩
theorem fl_RX5_233 : FL RX5 233 4 12 := ⟨RX5, TX5, 18, rfl, by decide, inX5, wt3_176⟩
theorem fw_RX5_233 : FW RX5 233 4 12 .int := ⟨RX5, TX5, 18, tyX5, rfl, by decide, inX5, wt3_176, tyX5_ok, nmX5, rfl, by decide +kernel⟩
theorem fl_RX5_222 : FL RX5 222 4 13 := ⟨RX5, TX5, 18, rfl, by decide, inX5, wt3_177⟩
theorem fw_RX5_222 : FW RX5 222 4 13 .boolean := ⟨RX5, TX5, 18, tyX5, rfl, by decide, inX5, wt3_177, tyX5_ok, nmX5, rfl, by decide +kernel⟩
theorem fl_RX5_28 : FL RX5 28 4 14 := ⟨RX5, TX5, 18, rfl, by decide, inX5, wt3_178⟩
theorem fl_RX5_31 : FL RX5 31 4 15 := ⟨RX5, TX5, 18, rfl, by decide, inX5, wt3_179⟩
theorem fl_RX5_34 : FL RX5 34 4 16 := ⟨RX5, TX5, 18, rfl, by decide, inX5, wt3_180⟩
theorem fl_RX5_38 : FL RX5 38 4 17 := ⟨RX5, TX5, 18, rfl, by decide, inX5, wt3_181⟩
theorem ml_RL_17 : ML RL 17 yX5_man 1 := ⟨wt3_219, wt3_220, wt3_221, wt1_5, ⟨by decide +kernel, by decide +kernel, by decide +kernel⟩⟩
theorem ms_RX5_57 : MS RX5 57 yX5_isGuise 1 := ⟨wt3_223, wt3_224, wt1_5, ⟨by decide +kernel, by decide +kernel, by decide +kernel⟩⟩
theorem ms_RX5_42 : MS RX5 42 yX5_in 3 := ⟨wt3_227, wt3_228, wt1_5, ⟨by decide +kernel, by decide +kernel, by decide +kernel⟩⟩
theorem ml_RX5_61 : ML RX5 61 yX5_finds 1 := ⟨wt3_231, wt3_233, wp21, wt1_5, ⟨by decide +kernel, by decide +kernel, by decide +kernel⟩⟩
theorem ml_RX5_66 : ML RX5 66 yX5_addsMan 1 := ⟨wt3_236, wt3_238, wp22, wt1_5, ⟨by decide +kernel, by decide +kernel, by decide +kernel⟩⟩
theorem ms_RX5_50 : MS RX5 50 yX5_placeOf 2 := ⟨wt4_0, wt4_1, wt1_5, ⟨by decide +kernel, by decide +kernel, by decide +kernel⟩⟩
theorem ml_RL_22 : ML RL 22 yX5_manOf 2 := ⟨wt4_3, wt4_4, wt4_5, wt1_5, ⟨by decide +kernel, by decide +kernel, by decide +kernel⟩⟩
theorem ml_RX5_69 : ML RX5 69 yX5_isMan 1 := ⟨wt4_7, wt4_9, wp23, wt1_5, ⟨by decide +kernel, by decide +kernel, by decide +kernel⟩⟩
theorem ml_RX5_72 : ML RX5 72 yX5_his 2 := ⟨wt4_11, wt4_13, wp24, wt1_5, ⟨by decide +kernel, by decide +kernel, by decide +kernel⟩⟩
theorem ml_RL_27 : ML RL 27 yX5_dress 3 := ⟨wt4_15, wt4_16, wt4_17, wt1_5, ⟨by decide +kernel, by decide +kernel, by decide +kernel⟩⟩
theorem ml_RX5_77 : ML RX5 77 yX5_becomes 2 := ⟨wt4_20, wt4_22, wp25, wt1_5, ⟨by decide +kernel, by decide +kernel, by decide +kernel⟩⟩
theorem ml_RL_31 : ML RL 31 yX5_first 1 := ⟨wt4_24, wt4_25, wt4_26, wt1_5, ⟨by decide +kernel, by decide +kernel, by decide +kernel⟩⟩
theorem ml_RL_36 : ML RL 36 yX5_goesHome 0 := ⟨wt4_28, wt4_29, wt4_30, wt1_5, ⟨by decide +kernel, by decide +kernel, by decide +kernel⟩⟩
theorem ml_RL_40 : ML RL 40 yX5_sheep 1 := ⟨wt4_33, wt4_34, wt4_35, wt1_5, ⟨by decide +kernel, by decide +kernel, by decide +kernel⟩⟩
theorem ms_RX5_81 : MS RX5 81 yX5_isKind 1 := ⟨wt4_37, wt4_38, wt1_5, ⟨by decide +kernel, by decide +kernel, by decide +kernel⟩⟩
theorem ml_RX5_84 : ML RX5 84 yX5_adds 1 := ⟨wt4_41, wt4_43, wp26, wt1_5, ⟨by decide +kernel, by decide +kernel, by decide +kernel⟩⟩
theorem ms_RX5_54 : MS RX5 54 yX5_spotOf 2 := ⟨wt4_45, wt4_46, wt1_5, ⟨by decide +kernel, by decide +kernel, by decide +kernel⟩⟩
theorem ml_RL_44 : ML RL 44 yX5_of 2 := ⟨wt4_48, wt4_49, wt4_50, wt1_5, ⟨by decide +kernel, by decide +kernel, by decide +kernel⟩⟩
theorem ml_RX5_93 : ML RX5 93 yX5_isSheep 1 := ⟨wt4_52, wt4_54, wp27, wt1_5, ⟨by decide +kernel, by decide +kernel, by decide +kernel⟩⟩
theorem ml_RX5_96 : ML RX5 96 yX5_isAsleep 1 := ⟨wt4_56, wt4_58, wp28, wt1_5, ⟨by decide +kernel, by decide +kernel, by decide +kernel⟩⟩
theorem ml_RX5_87 : ML RX5 87 yX5_its 2 := ⟨wt4_60, wt4_62, wp29, wt1_5, ⟨by decide +kernel, by decide +kernel, by decide +kernel⟩⟩
theorem ml_RX5_99 : ML RX5 99 yX5_wakesOf 1 := ⟨wt4_64, wt4_66, wp30, wt1_5, ⟨by decide +kernel, by decide +kernel, by decide +kernel⟩⟩
theorem ml_RX5_102 : ML RX5 102 yX5_tiresOf 1 := ⟨wt4_68, wt4_70, wp31, wt1_5, ⟨by decide +kernel, by decide +kernel, by decide +kernel⟩⟩
theorem ml_RL_48 : ML RL 48 yX5_set 3 := ⟨wt4_72, wt4_73, wt4_74, wt1_5, ⟨by decide +kernel, by decide +kernel, by decide +kernel⟩⟩
theorem ml_RL_52 : ML RL 52 yX5_turn 2 := ⟨wt4_77, wt4_78, wt4_79, wt1_5, ⟨by decide +kernel, by decide +kernel, by decide +kernel⟩⟩
theorem ml_RL_56 : ML RL 56 yX5_as 2 := ⟨wt4_81, wt4_82, wt4_83, wt1_5, ⟨by decide +kernel, by decide +kernel, by decide +kernel⟩⟩
theorem ms_RX5_107 : MS RX5 107 yX5_isUnder 2 := ⟨wt4_85, wt4_86, wt1_5, ⟨by decide +kernel, by decide +kernel, by decide +kernel⟩⟩
theorem ml_RL_60 : ML RL 60 yX5_counts 2 := ⟨wt4_89, wt4_90, wt4_91, wt1_5, ⟨by decide +kernel, by decide +kernel, by decide +kernel⟩⟩
theorem ml_RX5_112 : ML RX5 112 yX5_countsOf 2 := ⟨wt4_93, wt4_95, wp32, wt1_5, ⟨by decide +kernel, by decide +kernel, by decide +kernel⟩⟩
theorem ms_RX5_90 : MS RX5 90 yX5_ones 1 := ⟨wt4_97, wt4_98, wt1_5, ⟨by decide +kernel, by decide +kernel, by decide +kernel⟩⟩
theorem ml_RL_64 : ML RL 64 yX5_minutes 1 := ⟨wt4_100, wt4_101, wt4_102, wt1_5, ⟨by decide +kernel, by decide +kernel, by decide +kernel⟩⟩
theorem ml_RX5_135 : ML RX5 135 yX5_minutesGo 1 := ⟨wt4_107, wt4_109, wp33, wt1_5, ⟨by decide +kernel, by decide +kernel, by decide +kernel⟩⟩
theorem ml_RX5_128 : ML RX5 128 yX5_minute 0 := ⟨wt4_111, wt4_113, wp34, wt1_5, ⟨by decide +kernel, by decide +kernel, by decide +kernel⟩⟩
theorem ml_RX5_118 : ML RX5 118 yX5_isPassing 1 := ⟨wt4_115, wt4_117, wp35, wt1_5, ⟨by decide +kernel, by decide +kernel, by decide +kernel⟩⟩
theorem ml_RX5_121 : ML RX5 121 yX5_passes 1 := ⟨wt4_119, wt4_121, wp36, wt1_5, ⟨by decide +kernel, by decide +kernel, by decide +kernel⟩⟩
theorem ms_RX5_115 : MS RX5 115 yX5_heldTo 2 := ⟨wt4_123, wt4_124, wt1_5, ⟨by decide +kernel, by decide +kernel, by decide +kernel⟩⟩
theorem ml_RX5_125 : ML RX5 125 yX5_nobodyPasses 0 := ⟨wt4_126, wt4_128, wp37, wt1_5, ⟨by decide +kernel, by decide +kernel, by decide +kernel⟩⟩
theorem ml_RX5_138 : ML RX5 138 yX5_asleep 0 := ⟨wt4_130, wt4_132, wp38, wt1_5, ⟨by decide +kernel, by decide +kernel, by decide +kernel⟩⟩
theorem ml_RL_68 : ML RL 68 yX5_now 1 := ⟨wt4_134, wt4_135, wt4_136, wt1_5, ⟨by decide +kernel, by decide +kernel, by decide +kernel⟩⟩
theorem ml_RX5_142 : ML RX5 142 yX5_together 1 := ⟨wt4_138, wt4_140, wp39, wt1_5, ⟨by decide +kernel, by decide +kernel, by decide +kernel⟩⟩
theorem ml_RX5_145 : ML RX5 145 yX5_wearOf 1 := ⟨wt4_142, wt4_144, wp40, wt1_5, ⟨by decide +kernel, by decide +kernel, by decide +kernel⟩⟩
theorem ml_RX5_148 : ML RX5 148 yX5_passing 0 := ⟨wt4_146, wt4_148, wp41, wt1_5, ⟨by decide +kernel, by decide +kernel, by decide +kernel⟩⟩
theorem ml_RL_72 : ML RL 72 yX5_on 3 := ⟨wt4_150, wt4_151, wt4_152, wt1_5, ⟨by decide +kernel, by decide +kernel, by decide +kernel⟩⟩
theorem ml_RX5_157 : ML RX5 157 yX5_behind 2 := ⟨wt4_154, wt4_156, wp42, wt1_5, ⟨by decide +kernel, by decide +kernel, by decide +kernel⟩⟩
theorem ml_RX5_151 : ML RX5 151 yX5_laysAside 0 := ⟨wt4_158, wt4_160, wp43, wt1_5, ⟨by decide +kernel, by decide +kernel, by decide +kernel⟩⟩
theorem ml_RX5_154 : ML RX5 154 yX5_takesBack 1 := ⟨wt4_162, wt4_164, wp44, wt1_5, ⟨by decide +kernel, by decide +kernel, by decide +kernel⟩⟩
theorem ml_RL_76 : ML RL 76 yX5_worn 2 := ⟨wt4_166, wt4_167, wt4_168, wt1_5, ⟨by decide +kernel, by decide +kernel, by decide +kernel⟩⟩
theorem ml_RL_80 : ML RL 80 yX5_sleeps 1 := ⟨wt4_170, wt4_171, wt4_172, wt1_5, ⟨by decide +kernel, by decide +kernel, by decide +kernel⟩⟩
theorem ml_RX5_160 : ML RX5 160 yX5_firstAs 3 := ⟨wt4_174, wt4_176, wp45, wt1_5, ⟨by decide +kernel, by decide +kernel, by decide +kernel⟩⟩
theorem ml_RX5_164 : ML RX5 164 yX5_orNone 2 := ⟨wt4_178, wt4_180, wp46, wt1_5, ⟨by decide +kernel, by decide +kernel, by decide +kernel⟩⟩
theorem ml_RL_84 : ML RL 84 yX5_quiet 0 := ⟨wt4_182, wt4_183, wt4_184, wt1_5, ⟨by decide +kernel, by decide +kernel, by decide +kernel⟩⟩
theorem ml_RX5_167 : ML RX5 167 yX5_quietIn 1 := ⟨wt4_186, wt4_188, wp47, wt1_5, ⟨by decide +kernel, by decide +kernel, by decide +kernel⟩⟩
theorem ml_RL_88 : ML RL 88 yX5_bare 1 := ⟨wt4_190, wt4_191, wt4_192, wt1_5, ⟨by decide +kernel, by decide +kernel, by decide +kernel⟩⟩
theorem ml_RL_92 : ML RL 92 yX5_guise 1 := ⟨wt4_194, wt4_195, wt4_196, wt1_5, ⟨by decide +kernel, by decide +kernel, by decide +kernel⟩⟩
theorem ml_RX5_177 : ML RX5 177 yX5_begins 1 := ⟨wt4_198, wt4_200, wp48, wt1_5, ⟨by decide +kernel, by decide +kernel, by decide +kernel⟩⟩
theorem ml_RX5_180 : ML RX5 180 yX5_tries 2 := ⟨wt4_202, wt4_204, wp49, wt1_5, ⟨by decide +kernel, by decide +kernel, by decide +kernel⟩⟩
theorem ml_RX5_184 : ML RX5 184 yX5_bestOrNone 0 := ⟨wt4_206, wt4_208, wp50, wt1_5, ⟨by decide +kernel, by decide +kernel, by decide +kernel⟩⟩
theorem ml_RL_96 : ML RL 96 yX5_guises 2 := ⟨wt4_210, wt4_211, wt4_212, wt1_5, ⟨by decide +kernel, by decide +kernel, by decide +kernel⟩⟩
theorem ml_RL_100 : ML RL 100 yX5_swap 0 := ⟨wt4_214, wt4_215, wt4_216, wt1_5, ⟨by decide +kernel, by decide +kernel, by decide +kernel⟩⟩
theorem ml_RX5_187 : ML RX5 187 yX5_swaps 2 := ⟨wt4_218, wt4_220, wp51, wt1_5, ⟨by decide +kernel, by decide +kernel, by decide +kernel⟩⟩
theorem ml_RL_104 : ML RL 104 yX5_spare 2 := ⟨wt4_222, wt4_223, wt4_224, wt1_5, ⟨by decide +kernel, by decide +kernel, by decide +kernel⟩⟩
theorem ml_RL_108 : ML RL 108 yX5_kind 1 := ⟨wt4_228, wt4_229, wt4_230, wt1_5, ⟨by decide +kernel, by decide +kernel, by decide +kernel⟩⟩
theorem ml_RL_112 : ML RL 112 yX5_most 2 := ⟨wt4_232, wt4_233, wt4_234, wt1_5, ⟨by decide +kernel, by decide +kernel, by decide +kernel⟩⟩
theorem ml_RL_116 : ML RL 116 yX5_begin 1 := ⟨wt4_236, wt4_237, wt4_238, wt1_5, ⟨by decide +kernel, by decide +kernel, by decide +kernel⟩⟩
theorem ml_RL_120 : ML RL 120 yX5_last 0 := ⟨wt5_0, wt5_1, wt5_2, wt1_5, ⟨by decide +kernel, by decide +kernel, by decide +kernel⟩⟩
theorem ml_RL_124 : ML RL 124 yX5_feed 2 := ⟨wt5_4, wt5_5, wt5_6, wt1_5, ⟨by decide +kernel, by decide +kernel, by decide +kernel⟩⟩
theorem ml_RL_128 : ML RL 128 yX5_wipe 0 := ⟨wt5_9, wt5_10, wt5_11, wt1_5, ⟨by decide +kernel, by decide +kernel, by decide +kernel⟩⟩
theorem ml_RL_132 : ML RL 132 yX5_fell 0 := ⟨wt5_13, wt5_14, wt5_15, wt1_5, ⟨by decide +kernel, by decide +kernel, by decide +kernel⟩⟩
theorem ml_RX5_288 : ML RX5 288 yX5_saves 0 := ⟨wt5_17, wt5_19, wp52, wt1_5, ⟨by decide +kernel, by decide +kernel, by decide +kernel⟩⟩
theorem ml_RX5_226 : ML RX5 226 yX5_token 0 := ⟨wt5_21, wt5_23, wp53, wt1_5, ⟨by decide +kernel, by decide +kernel, by decide +kernel⟩⟩
theorem ml_RX5_213 : ML RX5 213 yX5_byteAt 1 := ⟨wt5_25, wt5_27, wp54, wt1_5, ⟨by decide +kernel, by decide +kernel, by decide +kernel⟩⟩
theorem ms_RX5_216 : MS RX5 216 yX5_isLetter 1 := ⟨wt5_29, wt5_30, wt1_5, ⟨by decide +kernel, by decide +kernel, by decide +kernel⟩⟩
theorem ms_RX5_219 : MS RX5 219 yX5_isDigit 1 := ⟨wt5_34, wt5_35, wt1_5, ⟨by decide +kernel, by decide +kernel, by decide +kernel⟩⟩
theorem ml_RX5_291 : ML RX5 291 yX5_item 0 := ⟨wt5_39, wt5_41, wp55, wt1_5, ⟨by decide +kernel, by decide +kernel, by decide +kernel⟩⟩
theorem ml_RX5_277 : ML RX5 277 yX5_kindHere 0 := ⟨wt5_43, wt5_45, wp56, wt1_5, ⟨by decide +kernel, by decide +kernel, by decide +kernel⟩⟩
theorem ml_RX5_240 : ML RX5 240 yX5_word 0 := ⟨wt5_47, wt5_49, wp57, wt1_5, ⟨by decide +kernel, by decide +kernel, by decide +kernel⟩⟩
theorem ml_RX5_280 : ML RX5 280 yX5_sheepItem 1 := ⟨wt5_59, wt5_61, wp58, wt1_5, ⟨by decide +kernel, by decide +kernel, by decide +kernel⟩⟩
theorem ml_RX5_236 : ML RX5 236 yX5_must 1 := ⟨wt5_63, wt5_65, wp59, wt1_5, ⟨by decide +kernel, by decide +kernel, by decide +kernel⟩⟩
theorem ml_RX5_261 : ML RX5 261 yX5_partItem 3 := ⟨wt5_68, wt5_70, wp60, wt1_5, ⟨by decide +kernel, by decide +kernel, by decide +kernel⟩⟩
theorem ml_RX5_256 : ML RX5 256 yX5_number 2 := ⟨wt5_72, wt5_74, wp61, wt1_5, ⟨by decide +kernel, by decide +kernel, by decide +kernel⟩⟩
theorem ml_RX5_285 : ML RX5 285 yX5_manItem 0 := ⟨wt5_77, wt5_79, wp62, wt1_5, ⟨by decide +kernel, by decide +kernel, by decide +kernel⟩⟩
theorem ml_RX5_267 : ML RX5 267 yX5_bitHere 2 := ⟨wt5_82, wt5_84, wp63, wt1_5, ⟨by decide +kernel, by decide +kernel, by decide +kernel⟩⟩
theorem ml_RX5_294 : ML RX5 294 yX5_putsBack 0 := ⟨wt5_89, wt5_91, wp64, wt1_5, ⟨by decide +kernel, by decide +kernel, by decide +kernel⟩⟩
theorem ml_RL_136 : ML RL 136 yX5_sheet 3 := ⟨wt5_93, wt5_94, wt5_95, wt1_5, ⟨by decide +kernel, by decide +kernel, by decide +kernel⟩⟩
theorem ms_RX5_299 : MS RX5 299 yX5_isOne 1 := ⟨wt5_97, wt5_98, wt1_5, ⟨by decide +kernel, by decide +kernel, by decide +kernel⟩⟩
theorem ml_RL_143 : ML RL 143 yX5_write 3 := ⟨wt5_102, wt5_103, wt5_104, wt1_5, ⟨by decide +kernel, by decide +kernel, by decide +kernel⟩⟩
theorem ml_RX5_304 : ML RX5 304 yX5_wrongSheet 1 := ⟨wt5_106, wt5_108, wp65, wt1_5, ⟨by decide +kernel, by decide +kernel, by decide +kernel⟩⟩
theorem ms_RX5_307 : MS RX5 307 yX5_narrowed 2 := ⟨wt5_111, wt5_112, wt1_5, ⟨by decide +kernel, by decide +kernel, by decide +kernel⟩⟩
theorem ml_RL_148 : ML RL 148 yX5_copy 5 := ⟨wt5_114, wt5_115, wt5_116, wt1_5, ⟨by decide +kernel, by decide +kernel, by decide +kernel⟩⟩
theorem ml_RL_152 : ML RL 152 yX5_lays 1 := ⟨wt5_118, wt5_119, wt5_120, wt1_5, ⟨by decide +kernel, by decide +kernel, by decide +kernel⟩⟩
theorem ml_RL_156 : ML RL 156 yX5_book 2 := ⟨wt5_122, wt5_123, wt5_124, wt1_5, ⟨by decide +kernel, by decide +kernel, by decide +kernel⟩⟩
theorem ml_RX5_311 : ML RX5 311 yX5_wrongBook 2 := ⟨wt5_126, wt5_128, wp66, wt1_5, ⟨by decide +kernel, by decide +kernel, by decide +kernel⟩⟩
theorem ml_RL_160 : ML RL 160 yX5_read 2 := ⟨wt5_130, wt5_131, wt5_132, wt1_5, ⟨by decide +kernel, by decide +kernel, by decide +kernel⟩⟩
theorem ml_RX5_314 : ML RX5 314 yX5_isBook 2 := ⟨wt5_134, wt5_136, wp67, wt1_5, ⟨by decide +kernel, by decide +kernel, by decide +kernel⟩⟩
theorem ml_RL_164 : ML RL 164 yX5_image 0 := ⟨wt5_138, wt5_139, wt5_140, wt1_5, ⟨by decide +kernel, by decide +kernel, by decide +kernel⟩⟩
theorem ml_RL_168 : ML RL 168 yX5_undo 0 := ⟨wt5_142, wt5_143, wt5_144, wt1_5, ⟨by decide +kernel, by decide +kernel, by decide +kernel⟩⟩
theorem ml_RL_172 : ML RL 172 yX5_tear 0 := ⟨wt5_146, wt5_147, wt5_148, wt1_5, ⟨by decide +kernel, by decide +kernel, by decide +kernel⟩⟩
theorem ml_RL_176 : ML RL 176 yX5_count 1 := ⟨wt5_150, wt5_151, wt5_152, wt1_5, ⟨by decide +kernel, by decide +kernel, by decide +kernel⟩⟩
theorem ml_RL_180 : ML RL 180 yX5_status 1 := ⟨wt5_154, wt5_155, wt5_156, wt1_5, ⟨by decide +kernel, by decide +kernel, by decide +kernel⟩⟩
theorem wc_RX4_44 : Cond.constant RX4 44 (Int32.ofInt (-1000000001)) ∈ wsL := wt1_146
theorem wc_RX4_53 : Cond.constant RX4 53 (Int32.ofInt (-1000000002)) ∈ wsL := wt1_155
theorem wc_RX4_78 : Cond.constant RX4 78 (Int32.ofInt (-1000000004)) ∈ wsL := wt1_181
theorem wc_RX4_118 : Cond.constant RX4 118 (Int32.ofInt (-1000000003)) ∈ wsL := wt2_2
theorem wc_RJ6_265 : Cond.constant RJ6 265 (Int32.ofInt (1431655765)) ∈ wsL := wt2_13
theorem wc_RJ6_266 : Cond.constant RJ6 266 (Int32.ofInt (858993459)) ∈ wsL := wt2_14
theorem wc_RJ6_267 : Cond.constant RJ6 267 (Int32.ofInt (252645135)) ∈ wsL := wt2_15
theorem wc_RX4_132 : Cond.constant RX4 132 (Int32.ofInt (99999)) ∈ wsL := wt2_26
theorem wc_RX4_133 : Cond.constant RX4 133 (Int32.ofInt (-1000000005)) ∈ wsL := wt2_27
theorem wc_RX4_207 : Cond.constant RX4 207 (Int32.ofInt (-1000000007)) ∈ wsL := wt3_84
theorem wc_RX4_226 : Cond.constant RX4 226 (Int32.ofInt (-1000000006)) ∈ wsL := wt3_101
theorem wc_RX4_239 : Cond.constantLong RX4 239 (Int64.ofInt (99)) ∈ wsL := wt3_121
theorem wc_RX5_48 : Cond.constantLong RX5 48 (Int64.ofInt (7)) ∈ wsL := wt3_226
theorem wc_RX5_41 : Cond.constant RX5 41 (Int32.ofInt (-1000000001)) ∈ wsL := wt3_230
theorem wc_RX5_65 : Cond.constant RX5 65 (Int32.ofInt (-1000000002)) ∈ wsL := wt3_235
theorem wc_RX5_75 : Cond.constantLong RX5 75 (Int64.ofInt (99)) ∈ wsL := wt4_19
theorem wc_RX5_80 : Cond.constant RX5 80 (Int32.ofInt (-1000000004)) ∈ wsL := wt4_32
theorem wc_RX5_46 : Cond.constantLong RX5 46 (Int64.ofInt (5)) ∈ wsL := wt4_40
theorem wc_RX5_105 : Cond.constantLong RX5 105 (Int64.ofInt (9999)) ∈ wsL := wt4_76
theorem wc_RX5_111 : Cond.constant RX5 111 (Int32.ofInt (-1000000003)) ∈ wsL := wt4_88
theorem wc_RX5_131 : Cond.constantLong RX5 131 (Int64.ofInt (100)) ∈ wsL := wt4_104
theorem wc_RX5_133 : Cond.constant RX5 133 (Int32.ofInt (99999)) ∈ wsL := wt4_105
theorem wc_RX5_134 : Cond.constant RX5 134 (Int32.ofInt (-1000000005)) ∈ wsL := wt4_106
theorem wc_RX5_190 : Cond.constantLong RX5 190 (Int64.ofInt (40)) ∈ wsL := wt4_226
theorem wc_RX5_192 : Cond.constantLong RX5 192 (Int64.ofInt (594)) ∈ wsL := wt4_227
theorem wc_RX5_194 : Cond.constantLong RX5 194 (Int64.ofInt (4)) ∈ wsL := wt5_8
theorem wc_RX5_199 : Cond.constantLong RX5 199 (Int64.ofInt (97)) ∈ wsL := wt5_32
theorem wc_RX5_201 : Cond.constantLong RX5 201 (Int64.ofInt (122)) ∈ wsL := wt5_33
theorem wc_RX5_203 : Cond.constantLong RX5 203 (Int64.ofInt (48)) ∈ wsL := wt5_37
theorem wc_RX5_205 : Cond.constantLong RX5 205 (Int64.ofInt (57)) ∈ wsL := wt5_38
theorem wc_RX5_229 : Cond.constantLong RX5 229 (Int64.ofInt (36028797018963967)) ∈ wsL := wt5_51
theorem wc_RX5_231 : Cond.constantLong RX5 231 (Int64.ofInt (32)) ∈ wsL := wt5_52
theorem wc_RX5_244 : Cond.constantLong RX5 244 (Int64.ofInt (20190384)) ∈ wsL := wt5_53
theorem wc_RX5_246 : Cond.constantLong RX5 246 (Int64.ofInt (5861)) ∈ wsL := wt5_54
theorem wc_RX5_248 : Cond.constantLong RX5 248 (Int64.ofInt (394658)) ∈ wsL := wt5_55
theorem wc_RX5_250 : Cond.constantLong RX5 250 (Int64.ofInt (777658546)) ∈ wsL := wt5_56
theorem wc_RX5_252 : Cond.constantLong RX5 252 (Int64.ofInt (24161458)) ∈ wsL := wt5_57
theorem wc_RX5_254 : Cond.constantLong RX5 254 (Int64.ofInt (21168)) ∈ wsL := wt5_58
theorem wc_RX5_259 : Cond.constantLong RX5 259 (Int64.ofInt (24165011)) ∈ wsL := wt5_67
theorem wc_RX5_283 : Cond.constantLong RX5 283 (Int64.ofInt (13358)) ∈ wsL := wt5_76
theorem wc_RX5_265 : Cond.constantLong RX5 265 (Int64.ofInt (4583)) ∈ wsL := wt5_81
theorem wc_RX5_271 : Cond.constantLong RX5 271 (Int64.ofInt (20587627)) ∈ wsL := wt5_86
theorem wc_RX5_273 : Cond.constantLong RX5 273 (Int64.ofInt (402864)) ∈ wsL := wt5_87
theorem wc_RX5_275 : Cond.constantLong RX5 275 (Int64.ofInt (769614)) ∈ wsL := wt5_88
theorem wc_RX5_297 : Cond.constantLong RX5 297 (Int64.ofInt (3)) ∈ wsL := wt5_100
theorem wc_RX5_302 : Cond.constant RX5 302 (Int32.ofInt (-1000000007)) ∈ wsL := wt5_101
theorem wc_RX5_303 : Cond.constant RX5 303 (Int32.ofInt (-1000000006)) ∈ wsL := wt5_110
theorem wc_RX5_320 : Cond.constantLong RX5 320 (Int64.ofInt (-1)) ∈ wsL := wt5_158
theorem wc_RX5_322 : Cond.constantLong RX5 322 (Int64.ofInt (6)) ∈ wsL := wt5_159
theorem wc_RL_137 : Cond.constantLong RL 137 (Int64.ofInt (4294967295)) ∈ wsL := wt5_160
end
