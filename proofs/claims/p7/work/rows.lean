section
-- ===== PART A: goes FIRST, ahead of the names: the tables' words, and 'selects' of the private methods out of them =====
/-- a private method of a class that the tables say can be made, by its rows of tables_1 -/
def lw_okq (q : MethodName × Nat) : Prop := (q.1.cls ≠ "java/lang/invoke/MethodHandle" ∧ q.1.cls ≠ "java/lang/invoke/VarHandle") ∧ Cond.instantiable q.1.cls q.2 ∈ tables_1 ∧ Cond.privateMethod q.1 ∈ tables_1 ∧ Cond.instanceMethod q.1 ∈ tables_1
theorem lw_p0 : lw_okq (⟨"MarkBench", "refresh", "()V"⟩, 12) := ⟨⟨by decide +kernel, by decide +kernel⟩, List.mem_of_getElem? (i := 23) (by decide +kernel), List.mem_of_getElem? (i := 446) (by decide +kernel), List.mem_of_getElem? (i := 447) (by decide +kernel)⟩
theorem lw_p1 : lw_okq (⟨"MarkBench$Choices", "addEntry", "(ILMarkBench$Book;I)V"⟩, 9) := ⟨⟨by decide +kernel, by decide +kernel⟩, List.mem_of_getElem? (i := 233) (by decide +kernel), List.mem_of_getElem? (i := 458) (by decide +kernel), List.mem_of_getElem? (i := 459) (by decide +kernel)⟩
theorem lw_p2 : lw_okq (⟨"MarkBench$Choices", "add", "(I[CIIII)I"⟩, 9) := ⟨⟨by decide +kernel, by decide +kernel⟩, List.mem_of_getElem? (i := 233) (by decide +kernel), List.mem_of_getElem? (i := 473) (by decide +kernel), List.mem_of_getElem? (i := 474) (by decide +kernel)⟩
theorem lw_p3 : lw_okq (⟨"MarkBench$Choices", "fillByWords", "(ILMarkBench$Line;LMarkBench$Book;)V"⟩, 9) := ⟨⟨by decide +kernel, by decide +kernel⟩, List.mem_of_getElem? (i := 233) (by decide +kernel), List.mem_of_getElem? (i := 496) (by decide +kernel), List.mem_of_getElem? (i := 497) (by decide +kernel)⟩
theorem lw_p4 : lw_okq (⟨"MarkBench$Choices", "fillByEnds", "(ILMarkBench$Line;LMarkBench$Book;)V"⟩, 9) := ⟨⟨by decide +kernel, by decide +kernel⟩, List.mem_of_getElem? (i := 233) (by decide +kernel), List.mem_of_getElem? (i := 511) (by decide +kernel), List.mem_of_getElem? (i := 512) (by decide +kernel)⟩
theorem lw_p5 : lw_okq (⟨"MarkBench$Choices", "isNew", "(I[CII)Z"⟩, 9) := ⟨⟨by decide +kernel, by decide +kernel⟩, List.mem_of_getElem? (i := 233) (by decide +kernel), List.mem_of_getElem? (i := 516) (by decide +kernel), List.mem_of_getElem? (i := 517) (by decide +kernel)⟩
theorem lw_p6 : lw_okq (⟨"MarkBench$Choices", "weigh", "(I)V"⟩, 9) := ⟨⟨by decide +kernel, by decide +kernel⟩, List.mem_of_getElem? (i := 233) (by decide +kernel), List.mem_of_getElem? (i := 527) (by decide +kernel), List.mem_of_getElem? (i := 528) (by decide +kernel)⟩
theorem lw_p7 : lw_okq (⟨"MarkBench", "putOnTape", "(I)V"⟩, 12) := ⟨⟨by decide +kernel, by decide +kernel⟩, List.mem_of_getElem? (i := 23) (by decide +kernel), List.mem_of_getElem? (i := 670) (by decide +kernel), List.mem_of_getElem? (i := 671) (by decide +kernel)⟩
theorem lw_p8 : lw_okq (⟨"MarkBench$Tokens", "addForm", "([CII)I"⟩, 5) := ⟨⟨by decide +kernel, by decide +kernel⟩, List.mem_of_getElem? (i := 150) (by decide +kernel), List.mem_of_getElem? (i := 700) (by decide +kernel), List.mem_of_getElem? (i := 701) (by decide +kernel)⟩
theorem lw_p9 : lw_okq (⟨"MarkBench$Tokens", "add", "(IIII)V"⟩, 5) := ⟨⟨by decide +kernel, by decide +kernel⟩, List.mem_of_getElem? (i := 150) (by decide +kernel), List.mem_of_getElem? (i := 705) (by decide +kernel), List.mem_of_getElem? (i := 706) (by decide +kernel)⟩
theorem lw_p10 : lw_okq (⟨"MarkBench$Tokens", "addNumber", "([CII)I"⟩, 5) := ⟨⟨by decide +kernel, by decide +kernel⟩, List.mem_of_getElem? (i := 150) (by decide +kernel), List.mem_of_getElem? (i := 712) (by decide +kernel), List.mem_of_getElem? (i := 713) (by decide +kernel)⟩
theorem lw_p11 : lw_okq (⟨"MarkBench$BookReader", "advance", "()V"⟩, 10) := ⟨⟨by decide +kernel, by decide +kernel⟩, List.mem_of_getElem? (i := 31) (by decide +kernel), List.mem_of_getElem? (i := 716) (by decide +kernel), List.mem_of_getElem? (i := 717) (by decide +kernel)⟩
theorem lw_p12 : lw_okq (⟨"MarkBench$BookReader", "readLine", "()Z"⟩, 10) := ⟨⟨by decide +kernel, by decide +kernel⟩, List.mem_of_getElem? (i := 31) (by decide +kernel), List.mem_of_getElem? (i := 720) (by decide +kernel), List.mem_of_getElem? (i := 721) (by decide +kernel)⟩
theorem lw_p13 : lw_okq (⟨"MarkBench$BookReader", "isWord", "(Ljava/lang/String;)Z"⟩, 10) := ⟨⟨by decide +kernel, by decide +kernel⟩, List.mem_of_getElem? (i := 31) (by decide +kernel), List.mem_of_getElem? (i := 725) (by decide +kernel), List.mem_of_getElem? (i := 726) (by decide +kernel)⟩
theorem lw_p14 : lw_okq (⟨"MarkBench$BookReader", "readWord", "()Z"⟩, 10) := ⟨⟨by decide +kernel, by decide +kernel⟩, List.mem_of_getElem? (i := 31) (by decide +kernel), List.mem_of_getElem? (i := 750) (by decide +kernel), List.mem_of_getElem? (i := 751) (by decide +kernel)⟩
theorem lw_p15 : lw_okq (⟨"MarkBench$BookReader", "misplaced", "()Z"⟩, 10) := ⟨⟨by decide +kernel, by decide +kernel⟩, List.mem_of_getElem? (i := 31) (by decide +kernel), List.mem_of_getElem? (i := 754) (by decide +kernel), List.mem_of_getElem? (i := 755) (by decide +kernel)⟩
def lw_privs_1 : List (MethodName × Nat) := [(⟨"MarkBench", "refresh", "()V"⟩, 12), (⟨"MarkBench$Choices", "addEntry", "(ILMarkBench$Book;I)V"⟩, 9), (⟨"MarkBench$Choices", "add", "(I[CIIII)I"⟩, 9), (⟨"MarkBench$Choices", "fillByWords", "(ILMarkBench$Line;LMarkBench$Book;)V"⟩, 9), (⟨"MarkBench$Choices", "fillByEnds", "(ILMarkBench$Line;LMarkBench$Book;)V"⟩, 9), (⟨"MarkBench$Choices", "isNew", "(I[CII)Z"⟩, 9), (⟨"MarkBench$Choices", "weigh", "(I)V"⟩, 9), (⟨"MarkBench", "putOnTape", "(I)V"⟩, 12), (⟨"MarkBench$Tokens", "addForm", "([CII)I"⟩, 5), (⟨"MarkBench$Tokens", "add", "(IIII)V"⟩, 5), (⟨"MarkBench$Tokens", "addNumber", "([CII)I"⟩, 5), (⟨"MarkBench$BookReader", "advance", "()V"⟩, 10), (⟨"MarkBench$BookReader", "readLine", "()Z"⟩, 10), (⟨"MarkBench$BookReader", "isWord", "(Ljava/lang/String;)Z"⟩, 10), (⟨"MarkBench$BookReader", "readWord", "()Z"⟩, 10), (⟨"MarkBench$BookReader", "misplaced", "()Z"⟩, 10)]
theorem lw_r1 : ∀ q ∈ lw_privs_1, lw_okq q := List.forall_mem_cons.mpr ⟨lw_p0, List.forall_mem_cons.mpr ⟨lw_p1, List.forall_mem_cons.mpr ⟨lw_p2, List.forall_mem_cons.mpr ⟨lw_p3, List.forall_mem_cons.mpr ⟨lw_p4, List.forall_mem_cons.mpr ⟨lw_p5, List.forall_mem_cons.mpr ⟨lw_p6, List.forall_mem_cons.mpr ⟨lw_p7, List.forall_mem_cons.mpr ⟨lw_p8, List.forall_mem_cons.mpr ⟨lw_p9, List.forall_mem_cons.mpr ⟨lw_p10, List.forall_mem_cons.mpr ⟨lw_p11, List.forall_mem_cons.mpr ⟨lw_p12, List.forall_mem_cons.mpr ⟨lw_p13, List.forall_mem_cons.mpr ⟨lw_p14, List.forall_mem_cons.mpr ⟨lw_p15, fun _ h => absurd h List.not_mem_nil⟩⟩⟩⟩⟩⟩⟩⟩⟩⟩⟩⟩⟩⟩⟩⟩
theorem lw_p16 : lw_okq (⟨"MarkBench$BookReader", "takeForm", "()Z"⟩, 10) := ⟨⟨by decide +kernel, by decide +kernel⟩, List.mem_of_getElem? (i := 31) (by decide +kernel), List.mem_of_getElem? (i := 758) (by decide +kernel), List.mem_of_getElem? (i := 759) (by decide +kernel)⟩
theorem lw_p17 : lw_okq (⟨"MarkBench$BookReader", "stands", "(I)Z"⟩, 10) := ⟨⟨by decide +kernel, by decide +kernel⟩, List.mem_of_getElem? (i := 31) (by decide +kernel), List.mem_of_getElem? (i := 762) (by decide +kernel), List.mem_of_getElem? (i := 763) (by decide +kernel)⟩
theorem lw_p18 : lw_okq (⟨"MarkBench$BookReader", "takeNumber", "(I)Z"⟩, 10) := ⟨⟨by decide +kernel, by decide +kernel⟩, List.mem_of_getElem? (i := 31) (by decide +kernel), List.mem_of_getElem? (i := 766) (by decide +kernel), List.mem_of_getElem? (i := 767) (by decide +kernel)⟩
theorem lw_p19 : lw_okq (⟨"MarkBench$BookReader", "refuse", "(II)Z"⟩, 10) := ⟨⟨by decide +kernel, by decide +kernel⟩, List.mem_of_getElem? (i := 31) (by decide +kernel), List.mem_of_getElem? (i := 770) (by decide +kernel), List.mem_of_getElem? (i := 771) (by decide +kernel)⟩
theorem lw_p20 : lw_okq (⟨"MarkBench$BookReader", "readDays", "(I)Z"⟩, 10) := ⟨⟨by decide +kernel, by decide +kernel⟩, List.mem_of_getElem? (i := 31) (by decide +kernel), List.mem_of_getElem? (i := 779) (by decide +kernel), List.mem_of_getElem? (i := 780) (by decide +kernel)⟩
theorem lw_p21 : lw_okq (⟨"MarkBench$BookReader", "readEnd", "()Z"⟩, 10) := ⟨⟨by decide +kernel, by decide +kernel⟩, List.mem_of_getElem? (i := 31) (by decide +kernel), List.mem_of_getElem? (i := 792) (by decide +kernel), List.mem_of_getElem? (i := 793) (by decide +kernel)⟩
theorem lw_p22 : lw_okq (⟨"MarkBench$BookReader", "takeSign", "()Z"⟩, 10) := ⟨⟨by decide +kernel, by decide +kernel⟩, List.mem_of_getElem? (i := 31) (by decide +kernel), List.mem_of_getElem? (i := 797) (by decide +kernel), List.mem_of_getElem? (i := 798) (by decide +kernel)⟩
theorem lw_p23 : lw_okq (⟨"MarkBench$BookReader", "readName", "()Z"⟩, 10) := ⟨⟨by decide +kernel, by decide +kernel⟩, List.mem_of_getElem? (i := 31) (by decide +kernel), List.mem_of_getElem? (i := 802) (by decide +kernel), List.mem_of_getElem? (i := 803) (by decide +kernel)⟩
theorem lw_p24 : lw_okq (⟨"MarkBench$BookReader", "readPair", "(Z)Z"⟩, 10) := ⟨⟨by decide +kernel, by decide +kernel⟩, List.mem_of_getElem? (i := 31) (by decide +kernel), List.mem_of_getElem? (i := 808) (by decide +kernel), List.mem_of_getElem? (i := 809) (by decide +kernel)⟩
theorem lw_p25 : lw_okq (⟨"MarkBench$BookReader", "readBare", "()Z"⟩, 10) := ⟨⟨by decide +kernel, by decide +kernel⟩, List.mem_of_getElem? (i := 31) (by decide +kernel), List.mem_of_getElem? (i := 819) (by decide +kernel), List.mem_of_getElem? (i := 820) (by decide +kernel)⟩
theorem lw_p26 : lw_okq (⟨"MarkBench$Line", "begin", "(IZ)V"⟩, 7) := ⟨⟨by decide +kernel, by decide +kernel⟩, List.mem_of_getElem? (i := 408) (by decide +kernel), List.mem_of_getElem? (i := 842) (by decide +kernel), List.mem_of_getElem? (i := 843) (by decide +kernel)⟩
theorem lw_p27 : lw_okq (⟨"MarkBench$Sheet", "workOut", "()V"⟩, 12) := ⟨⟨by decide +kernel, by decide +kernel⟩, List.mem_of_getElem? (i := 289) (by decide +kernel), List.mem_of_getElem? (i := 880) (by decide +kernel), List.mem_of_getElem? (i := 881) (by decide +kernel)⟩
theorem lw_p28 : lw_okq (⟨"MarkBench$Walk", "bound", "(I)V"⟩, 12) := ⟨⟨by decide +kernel, by decide +kernel⟩, List.mem_of_getElem? (i := 295) (by decide +kernel), List.mem_of_getElem? (i := 888) (by decide +kernel), List.mem_of_getElem? (i := 889) (by decide +kernel)⟩
theorem lw_p29 : lw_okq (⟨"MarkBench$Walk", "leastGain", "(I)I"⟩, 12) := ⟨⟨by decide +kernel, by decide +kernel⟩, List.mem_of_getElem? (i := 295) (by decide +kernel), List.mem_of_getElem? (i := 892) (by decide +kernel), List.mem_of_getElem? (i := 893) (by decide +kernel)⟩
theorem lw_p30 : lw_okq (⟨"MarkBench$Walk", "mostGain", "(I)I"⟩, 12) := ⟨⟨by decide +kernel, by decide +kernel⟩, List.mem_of_getElem? (i := 295) (by decide +kernel), List.mem_of_getElem? (i := 897) (by decide +kernel), List.mem_of_getElem? (i := 898) (by decide +kernel)⟩
theorem lw_p31 : lw_okq (⟨"MarkBench$Walk", "walkBack", "()V"⟩, 12) := ⟨⟨by decide +kernel, by decide +kernel⟩, List.mem_of_getElem? (i := 295) (by decide +kernel), List.mem_of_getElem? (i := 913) (by decide +kernel), List.mem_of_getElem? (i := 914) (by decide +kernel)⟩
def lw_privs_2 : List (MethodName × Nat) := [(⟨"MarkBench$BookReader", "takeForm", "()Z"⟩, 10), (⟨"MarkBench$BookReader", "stands", "(I)Z"⟩, 10), (⟨"MarkBench$BookReader", "takeNumber", "(I)Z"⟩, 10), (⟨"MarkBench$BookReader", "refuse", "(II)Z"⟩, 10), (⟨"MarkBench$BookReader", "readDays", "(I)Z"⟩, 10), (⟨"MarkBench$BookReader", "readEnd", "()Z"⟩, 10), (⟨"MarkBench$BookReader", "takeSign", "()Z"⟩, 10), (⟨"MarkBench$BookReader", "readName", "()Z"⟩, 10), (⟨"MarkBench$BookReader", "readPair", "(Z)Z"⟩, 10), (⟨"MarkBench$BookReader", "readBare", "()Z"⟩, 10), (⟨"MarkBench$Line", "begin", "(IZ)V"⟩, 7), (⟨"MarkBench$Sheet", "workOut", "()V"⟩, 12), (⟨"MarkBench$Walk", "bound", "(I)V"⟩, 12), (⟨"MarkBench$Walk", "leastGain", "(I)I"⟩, 12), (⟨"MarkBench$Walk", "mostGain", "(I)I"⟩, 12), (⟨"MarkBench$Walk", "walkBack", "()V"⟩, 12)]
theorem lw_r2 : ∀ q ∈ lw_privs_2, lw_okq q := List.forall_mem_cons.mpr ⟨lw_p16, List.forall_mem_cons.mpr ⟨lw_p17, List.forall_mem_cons.mpr ⟨lw_p18, List.forall_mem_cons.mpr ⟨lw_p19, List.forall_mem_cons.mpr ⟨lw_p20, List.forall_mem_cons.mpr ⟨lw_p21, List.forall_mem_cons.mpr ⟨lw_p22, List.forall_mem_cons.mpr ⟨lw_p23, List.forall_mem_cons.mpr ⟨lw_p24, List.forall_mem_cons.mpr ⟨lw_p25, List.forall_mem_cons.mpr ⟨lw_p26, List.forall_mem_cons.mpr ⟨lw_p27, List.forall_mem_cons.mpr ⟨lw_p28, List.forall_mem_cons.mpr ⟨lw_p29, List.forall_mem_cons.mpr ⟨lw_p30, List.forall_mem_cons.mpr ⟨lw_p31, fun _ h => absurd h List.not_mem_nil⟩⟩⟩⟩⟩⟩⟩⟩⟩⟩⟩⟩⟩⟩⟩⟩
theorem lw_p32 : lw_okq (⟨"MarkBench$Walk", "fillRest", "(II)V"⟩, 12) := ⟨⟨by decide +kernel, by decide +kernel⟩, List.mem_of_getElem? (i := 295) (by decide +kernel), List.mem_of_getElem? (i := 921) (by decide +kernel), List.mem_of_getElem? (i := 922) (by decide +kernel)⟩
theorem lw_p33 : lw_okq (⟨"MarkBench$Walk", "stateOf", "(II)I"⟩, 12) := ⟨⟨by decide +kernel, by decide +kernel⟩, List.mem_of_getElem? (i := 295) (by decide +kernel), List.mem_of_getElem? (i := 925) (by decide +kernel), List.mem_of_getElem? (i := 926) (by decide +kernel)⟩
theorem lw_p34 : lw_okq (⟨"MarkBench$Walk", "firstSlot", "(I)I"⟩, 12) := ⟨⟨by decide +kernel, by decide +kernel⟩, List.mem_of_getElem? (i := 295) (by decide +kernel), List.mem_of_getElem? (i := 929) (by decide +kernel), List.mem_of_getElem? (i := 930) (by decide +kernel)⟩
theorem lw_p35 : lw_okq (⟨"MarkBench$Walk", "lastSlot", "(I)I"⟩, 12) := ⟨⟨by decide +kernel, by decide +kernel⟩, List.mem_of_getElem? (i := 295) (by decide +kernel), List.mem_of_getElem? (i := 933) (by decide +kernel), List.mem_of_getElem? (i := 934) (by decide +kernel)⟩
theorem lw_p36 : lw_okq (⟨"MarkBench$Walk", "walkOn", "([II)V"⟩, 12) := ⟨⟨by decide +kernel, by decide +kernel⟩, List.mem_of_getElem? (i := 295) (by decide +kernel), List.mem_of_getElem? (i := 937) (by decide +kernel), List.mem_of_getElem? (i := 938) (by decide +kernel)⟩
theorem lw_p37 : lw_okq (⟨"MarkBench$Walk", "enter", "(I)V"⟩, 12) := ⟨⟨by decide +kernel, by decide +kernel⟩, List.mem_of_getElem? (i := 295) (by decide +kernel), List.mem_of_getElem? (i := 941) (by decide +kernel), List.mem_of_getElem? (i := 942) (by decide +kernel)⟩
theorem lw_p38 : lw_okq (⟨"MarkBench$Walk", "enterFrom", "(III)V"⟩, 12) := ⟨⟨by decide +kernel, by decide +kernel⟩, List.mem_of_getElem? (i := 295) (by decide +kernel), List.mem_of_getElem? (i := 945) (by decide +kernel), List.mem_of_getElem? (i := 946) (by decide +kernel)⟩
theorem lw_p39 : lw_okq (⟨"MarkBench$Walk", "pass", "(II)I"⟩, 12) := ⟨⟨by decide +kernel, by decide +kernel⟩, List.mem_of_getElem? (i := 295) (by decide +kernel), List.mem_of_getElem? (i := 950) (by decide +kernel), List.mem_of_getElem? (i := 951) (by decide +kernel)⟩
theorem lw_p40 : lw_okq (⟨"MarkBench$Tally", "clear", "([JI)V"⟩, 5) := ⟨⟨by decide +kernel, by decide +kernel⟩, List.mem_of_getElem? (i := 343) (by decide +kernel), List.mem_of_getElem? (i := 997) (by decide +kernel), List.mem_of_getElem? (i := 998) (by decide +kernel)⟩
theorem lw_p41 : lw_okq (⟨"MarkBench$Tally", "rowOf", "(III)I"⟩, 5) := ⟨⟨by decide +kernel, by decide +kernel⟩, List.mem_of_getElem? (i := 343) (by decide +kernel), List.mem_of_getElem? (i := 1002) (by decide +kernel), List.mem_of_getElem? (i := 1003) (by decide +kernel)⟩
theorem lw_p42 : lw_okq (⟨"MarkBench$Tally", "begin", "(I)V"⟩, 5) := ⟨⟨by decide +kernel, by decide +kernel⟩, List.mem_of_getElem? (i := 343) (by decide +kernel), List.mem_of_getElem? (i := 1009) (by decide +kernel), List.mem_of_getElem? (i := 1010) (by decide +kernel)⟩
theorem lw_p43 : lw_okq (⟨"MarkBench$Tally", "stepTo", "(I)V"⟩, 5) := ⟨⟨by decide +kernel, by decide +kernel⟩, List.mem_of_getElem? (i := 343) (by decide +kernel), List.mem_of_getElem? (i := 1014) (by decide +kernel), List.mem_of_getElem? (i := 1015) (by decide +kernel)⟩
theorem lw_p44 : lw_okq (⟨"MarkBench$Tally", "leastLoss", "(I)I"⟩, 5) := ⟨⟨by decide +kernel, by decide +kernel⟩, List.mem_of_getElem? (i := 343) (by decide +kernel), List.mem_of_getElem? (i := 1018) (by decide +kernel), List.mem_of_getElem? (i := 1019) (by decide +kernel)⟩
theorem lw_p45 : lw_okq (⟨"MarkBench$Tally", "spread", "(IIIII)V"⟩, 5) := ⟨⟨by decide +kernel, by decide +kernel⟩, List.mem_of_getElem? (i := 343) (by decide +kernel), List.mem_of_getElem? (i := 1022) (by decide +kernel), List.mem_of_getElem? (i := 1023) (by decide +kernel)⟩
theorem lw_p46 : lw_okq (⟨"MarkBench$Tally", "sum", "()V"⟩, 5) := ⟨⟨by decide +kernel, by decide +kernel⟩, List.mem_of_getElem? (i := 343) (by decide +kernel), List.mem_of_getElem? (i := 1026) (by decide +kernel), List.mem_of_getElem? (i := 1027) (by decide +kernel)⟩
theorem lw_p47 : lw_okq (⟨"MarkBench$Sheet", "isSureBy", "([IIII)Z"⟩, 12) := ⟨⟨by decide +kernel, by decide +kernel⟩, List.mem_of_getElem? (i := 289) (by decide +kernel), List.mem_of_getElem? (i := 1038) (by decide +kernel), List.mem_of_getElem? (i := 1039) (by decide +kernel)⟩
def lw_privs_3 : List (MethodName × Nat) := [(⟨"MarkBench$Walk", "fillRest", "(II)V"⟩, 12), (⟨"MarkBench$Walk", "stateOf", "(II)I"⟩, 12), (⟨"MarkBench$Walk", "firstSlot", "(I)I"⟩, 12), (⟨"MarkBench$Walk", "lastSlot", "(I)I"⟩, 12), (⟨"MarkBench$Walk", "walkOn", "([II)V"⟩, 12), (⟨"MarkBench$Walk", "enter", "(I)V"⟩, 12), (⟨"MarkBench$Walk", "enterFrom", "(III)V"⟩, 12), (⟨"MarkBench$Walk", "pass", "(II)I"⟩, 12), (⟨"MarkBench$Tally", "clear", "([JI)V"⟩, 5), (⟨"MarkBench$Tally", "rowOf", "(III)I"⟩, 5), (⟨"MarkBench$Tally", "begin", "(I)V"⟩, 5), (⟨"MarkBench$Tally", "stepTo", "(I)V"⟩, 5), (⟨"MarkBench$Tally", "leastLoss", "(I)I"⟩, 5), (⟨"MarkBench$Tally", "spread", "(IIIII)V"⟩, 5), (⟨"MarkBench$Tally", "sum", "()V"⟩, 5), (⟨"MarkBench$Sheet", "isSureBy", "([IIII)Z"⟩, 12)]
theorem lw_r3 : ∀ q ∈ lw_privs_3, lw_okq q := List.forall_mem_cons.mpr ⟨lw_p32, List.forall_mem_cons.mpr ⟨lw_p33, List.forall_mem_cons.mpr ⟨lw_p34, List.forall_mem_cons.mpr ⟨lw_p35, List.forall_mem_cons.mpr ⟨lw_p36, List.forall_mem_cons.mpr ⟨lw_p37, List.forall_mem_cons.mpr ⟨lw_p38, List.forall_mem_cons.mpr ⟨lw_p39, List.forall_mem_cons.mpr ⟨lw_p40, List.forall_mem_cons.mpr ⟨lw_p41, List.forall_mem_cons.mpr ⟨lw_p42, List.forall_mem_cons.mpr ⟨lw_p43, List.forall_mem_cons.mpr ⟨lw_p44, List.forall_mem_cons.mpr ⟨lw_p45, List.forall_mem_cons.mpr ⟨lw_p46, List.forall_mem_cons.mpr ⟨lw_p47, fun _ h => absurd h List.not_mem_nil⟩⟩⟩⟩⟩⟩⟩⟩⟩⟩⟩⟩⟩⟩⟩⟩
theorem lw_p48 : lw_okq (⟨"MarkBench$Sheet", "nearFrom", "([IIII)I"⟩, 12) := ⟨⟨by decide +kernel, by decide +kernel⟩, List.mem_of_getElem? (i := 289) (by decide +kernel), List.mem_of_getElem? (i := 1042) (by decide +kernel), List.mem_of_getElem? (i := 1043) (by decide +kernel)⟩
theorem lw_p49 : lw_okq (⟨"MarkBench$Sheet", "sureIfRead", "(II)I"⟩, 12) := ⟨⟨by decide +kernel, by decide +kernel⟩, List.mem_of_getElem? (i := 289) (by decide +kernel), List.mem_of_getElem? (i := 1087) (by decide +kernel), List.mem_of_getElem? (i := 1088) (by decide +kernel)⟩
theorem lw_p50 : lw_okq (⟨"MarkBenchModel", "takeTape", "()V"⟩, 67) := ⟨⟨by decide +kernel, by decide +kernel⟩, List.mem_of_getElem? (i := 1099) (by decide +kernel), List.mem_of_getElem? (i := 1312) (by decide +kernel), List.mem_of_getElem? (i := 1313) (by decide +kernel)⟩
theorem lw_p51 : lw_okq (⟨"MarkBenchModel", "next", "()V"⟩, 67) := ⟨⟨by decide +kernel, by decide +kernel⟩, List.mem_of_getElem? (i := 1099) (by decide +kernel), List.mem_of_getElem? (i := 1316) (by decide +kernel), List.mem_of_getElem? (i := 1317) (by decide +kernel)⟩
theorem lw_p52 : lw_okq (⟨"MarkBenchModel", "sign", "(I)I"⟩, 67) := ⟨⟨by decide +kernel, by decide +kernel⟩, List.mem_of_getElem? (i := 1099) (by decide +kernel), List.mem_of_getElem? (i := 1320) (by decide +kernel), List.mem_of_getElem? (i := 1321) (by decide +kernel)⟩
theorem lw_p53 : lw_okq (⟨"MarkBenchModel", "isGood", "()Z"⟩, 67) := ⟨⟨by decide +kernel, by decide +kernel⟩, List.mem_of_getElem? (i := 1099) (by decide +kernel), List.mem_of_getElem? (i := 1333) (by decide +kernel), List.mem_of_getElem? (i := 1334) (by decide +kernel)⟩
theorem lw_p54 : lw_okq (⟨"MarkBenchModel", "readLine", "()V"⟩, 67) := ⟨⟨by decide +kernel, by decide +kernel⟩, List.mem_of_getElem? (i := 1099) (by decide +kernel), List.mem_of_getElem? (i := 1337) (by decide +kernel), List.mem_of_getElem? (i := 1338) (by decide +kernel)⟩
theorem lw_p55 : lw_okq (⟨"MarkBenchModel", "isWord", "(J)Z"⟩, 67) := ⟨⟨by decide +kernel, by decide +kernel⟩, List.mem_of_getElem? (i := 1099) (by decide +kernel), List.mem_of_getElem? (i := 1342) (by decide +kernel), List.mem_of_getElem? (i := 1343) (by decide +kernel)⟩
theorem lw_p56 : lw_okq (⟨"MarkBenchModel", "wrong", "()V"⟩, 67) := ⟨⟨by decide +kernel, by decide +kernel⟩, List.mem_of_getElem? (i := 1099) (by decide +kernel), List.mem_of_getElem? (i := 1351) (by decide +kernel), List.mem_of_getElem? (i := 1352) (by decide +kernel)⟩
theorem lw_p57 : lw_okq (⟨"MarkBenchModel", "fails", "(II)V"⟩, 67) := ⟨⟨by decide +kernel, by decide +kernel⟩, List.mem_of_getElem? (i := 1099) (by decide +kernel), List.mem_of_getElem? (i := 1355) (by decide +kernel), List.mem_of_getElem? (i := 1356) (by decide +kernel)⟩
theorem lw_p58 : lw_okq (⟨"MarkBenchModel", "readWord", "()V"⟩, 67) := ⟨⟨by decide +kernel, by decide +kernel⟩, List.mem_of_getElem? (i := 1099) (by decide +kernel), List.mem_of_getElem? (i := 1359) (by decide +kernel), List.mem_of_getElem? (i := 1360) (by decide +kernel)⟩
theorem lw_p59 : lw_okq (⟨"MarkBenchModel", "form", "()V"⟩, 67) := ⟨⟨by decide +kernel, by decide +kernel⟩, List.mem_of_getElem? (i := 1099) (by decide +kernel), List.mem_of_getElem? (i := 1363) (by decide +kernel), List.mem_of_getElem? (i := 1364) (by decide +kernel)⟩
theorem lw_p60 : lw_okq (⟨"MarkBenchModel", "take", "([BI)I"⟩, 67) := ⟨⟨by decide +kernel, by decide +kernel⟩, List.mem_of_getElem? (i := 1099) (by decide +kernel), List.mem_of_getElem? (i := 1367) (by decide +kernel), List.mem_of_getElem? (i := 1368) (by decide +kernel)⟩
theorem lw_p61 : lw_okq (⟨"MarkBenchModel", "numeral", "(I)I"⟩, 67) := ⟨⟨by decide +kernel, by decide +kernel⟩, List.mem_of_getElem? (i := 1099) (by decide +kernel), List.mem_of_getElem? (i := 1371) (by decide +kernel), List.mem_of_getElem? (i := 1372) (by decide +kernel)⟩
theorem lw_p62 : lw_okq (⟨"MarkBenchModel", "readEnd", "()V"⟩, 67) := ⟨⟨by decide +kernel, by decide +kernel⟩, List.mem_of_getElem? (i := 1099) (by decide +kernel), List.mem_of_getElem? (i := 1384) (by decide +kernel), List.mem_of_getElem? (i := 1385) (by decide +kernel)⟩
theorem lw_p63 : lw_okq (⟨"MarkBenchModel", "readName", "()V"⟩, 67) := ⟨⟨by decide +kernel, by decide +kernel⟩, List.mem_of_getElem? (i := 1099) (by decide +kernel), List.mem_of_getElem? (i := 1388) (by decide +kernel), List.mem_of_getElem? (i := 1389) (by decide +kernel)⟩
def lw_privs_4 : List (MethodName × Nat) := [(⟨"MarkBench$Sheet", "nearFrom", "([IIII)I"⟩, 12), (⟨"MarkBench$Sheet", "sureIfRead", "(II)I"⟩, 12), (⟨"MarkBenchModel", "takeTape", "()V"⟩, 67), (⟨"MarkBenchModel", "next", "()V"⟩, 67), (⟨"MarkBenchModel", "sign", "(I)I"⟩, 67), (⟨"MarkBenchModel", "isGood", "()Z"⟩, 67), (⟨"MarkBenchModel", "readLine", "()V"⟩, 67), (⟨"MarkBenchModel", "isWord", "(J)Z"⟩, 67), (⟨"MarkBenchModel", "wrong", "()V"⟩, 67), (⟨"MarkBenchModel", "fails", "(II)V"⟩, 67), (⟨"MarkBenchModel", "readWord", "()V"⟩, 67), (⟨"MarkBenchModel", "form", "()V"⟩, 67), (⟨"MarkBenchModel", "take", "([BI)I"⟩, 67), (⟨"MarkBenchModel", "numeral", "(I)I"⟩, 67), (⟨"MarkBenchModel", "readEnd", "()V"⟩, 67), (⟨"MarkBenchModel", "readName", "()V"⟩, 67)]
theorem lw_r4 : ∀ q ∈ lw_privs_4, lw_okq q := List.forall_mem_cons.mpr ⟨lw_p48, List.forall_mem_cons.mpr ⟨lw_p49, List.forall_mem_cons.mpr ⟨lw_p50, List.forall_mem_cons.mpr ⟨lw_p51, List.forall_mem_cons.mpr ⟨lw_p52, List.forall_mem_cons.mpr ⟨lw_p53, List.forall_mem_cons.mpr ⟨lw_p54, List.forall_mem_cons.mpr ⟨lw_p55, List.forall_mem_cons.mpr ⟨lw_p56, List.forall_mem_cons.mpr ⟨lw_p57, List.forall_mem_cons.mpr ⟨lw_p58, List.forall_mem_cons.mpr ⟨lw_p59, List.forall_mem_cons.mpr ⟨lw_p60, List.forall_mem_cons.mpr ⟨lw_p61, List.forall_mem_cons.mpr ⟨lw_p62, List.forall_mem_cons.mpr ⟨lw_p63, fun _ h => absurd h List.not_mem_nil⟩⟩⟩⟩⟩⟩⟩⟩⟩⟩⟩⟩⟩⟩⟩⟩
theorem lw_p64 : lw_okq (⟨"MarkBenchModel", "readPair", "(Z)V"⟩, 67) := ⟨⟨by decide +kernel, by decide +kernel⟩, List.mem_of_getElem? (i := 1099) (by decide +kernel), List.mem_of_getElem? (i := 1392) (by decide +kernel), List.mem_of_getElem? (i := 1393) (by decide +kernel)⟩
theorem lw_p65 : lw_okq (⟨"MarkBenchModel", "readBare", "()V"⟩, 67) := ⟨⟨by decide +kernel, by decide +kernel⟩, List.mem_of_getElem? (i := 1099) (by decide +kernel), List.mem_of_getElem? (i := 1396) (by decide +kernel), List.mem_of_getElem? (i := 1397) (by decide +kernel)⟩
theorem lw_p66 : lw_okq (⟨"MarkBenchModel", "readWords", "()I"⟩, 67) := ⟨⟨by decide +kernel, by decide +kernel⟩, List.mem_of_getElem? (i := 1099) (by decide +kernel), List.mem_of_getElem? (i := 1408) (by decide +kernel), List.mem_of_getElem? (i := 1409) (by decide +kernel)⟩
theorem lw_p67 : lw_okq (⟨"MarkBenchModel", "isPlace", "(I)Z"⟩, 67) := ⟨⟨by decide +kernel, by decide +kernel⟩, List.mem_of_getElem? (i := 1099) (by decide +kernel), List.mem_of_getElem? (i := 1420) (by decide +kernel), List.mem_of_getElem? (i := 1421) (by decide +kernel)⟩
theorem lw_p68 : lw_okq (⟨"MarkBenchModel", "know", "()V"⟩, 67) := ⟨⟨by decide +kernel, by decide +kernel⟩, List.mem_of_getElem? (i := 1099) (by decide +kernel), List.mem_of_getElem? (i := 1424) (by decide +kernel), List.mem_of_getElem? (i := 1425) (by decide +kernel)⟩
theorem lw_p69 : lw_okq (⟨"MarkBenchModel", "readingsOf", "(I)V"⟩, 67) := ⟨⟨by decide +kernel, by decide +kernel⟩, List.mem_of_getElem? (i := 1099) (by decide +kernel), List.mem_of_getElem? (i := 1428) (by decide +kernel), List.mem_of_getElem? (i := 1429) (by decide +kernel)⟩
theorem lw_p70 : lw_okq (⟨"MarkBenchModel", "handOf", "(I)I"⟩, 67) := ⟨⟨by decide +kernel, by decide +kernel⟩, List.mem_of_getElem? (i := 1099) (by decide +kernel), List.mem_of_getElem? (i := 1432) (by decide +kernel), List.mem_of_getElem? (i := 1433) (by decide +kernel)⟩
theorem lw_p71 : lw_okq (⟨"MarkBenchModel", "addWord", "(II)V"⟩, 67) := ⟨⟨by decide +kernel, by decide +kernel⟩, List.mem_of_getElem? (i := 1099) (by decide +kernel), List.mem_of_getElem? (i := 1436) (by decide +kernel), List.mem_of_getElem? (i := 1437) (by decide +kernel)⟩
theorem lw_p72 : lw_okq (⟨"MarkBenchModel", "costOf", "(I)I"⟩, 67) := ⟨⟨by decide +kernel, by decide +kernel⟩, List.mem_of_getElem? (i := 1099) (by decide +kernel), List.mem_of_getElem? (i := 1440) (by decide +kernel), List.mem_of_getElem? (i := 1441) (by decide +kernel)⟩
theorem lw_p73 : lw_okq (⟨"MarkBenchModel", "add", "(IIII)I"⟩, 67) := ⟨⟨by decide +kernel, by decide +kernel⟩, List.mem_of_getElem? (i := 1099) (by decide +kernel), List.mem_of_getElem? (i := 1444) (by decide +kernel), List.mem_of_getElem? (i := 1445) (by decide +kernel)⟩
theorem lw_p74 : lw_okq (⟨"MarkBenchModel", "countMarks", "(II)V"⟩, 67) := ⟨⟨by decide +kernel, by decide +kernel⟩, List.mem_of_getElem? (i := 1099) (by decide +kernel), List.mem_of_getElem? (i := 1448) (by decide +kernel), List.mem_of_getElem? (i := 1449) (by decide +kernel)⟩
theorem lw_p75 : lw_okq (⟨"MarkBenchModel", "isName", "(I)Z"⟩, 67) := ⟨⟨by decide +kernel, by decide +kernel⟩, List.mem_of_getElem? (i := 1099) (by decide +kernel), List.mem_of_getElem? (i := 1455) (by decide +kernel), List.mem_of_getElem? (i := 1456) (by decide +kernel)⟩
theorem lw_p76 : lw_okq (⟨"MarkBenchModel", "letterAt", "(II)I"⟩, 67) := ⟨⟨by decide +kernel, by decide +kernel⟩, List.mem_of_getElem? (i := 1099) (by decide +kernel), List.mem_of_getElem? (i := 1459) (by decide +kernel), List.mem_of_getElem? (i := 1460) (by decide +kernel)⟩
theorem lw_p77 : lw_okq (⟨"MarkBenchModel", "fits", "([BIIII)Z"⟩, 67) := ⟨⟨by decide +kernel, by decide +kernel⟩, List.mem_of_getElem? (i := 1099) (by decide +kernel), List.mem_of_getElem? (i := 1463) (by decide +kernel), List.mem_of_getElem? (i := 1464) (by decide +kernel)⟩
theorem lw_p78 : lw_okq (⟨"MarkBenchModel", "addEnd", "(II)V"⟩, 67) := ⟨⟨by decide +kernel, by decide +kernel⟩, List.mem_of_getElem? (i := 1099) (by decide +kernel), List.mem_of_getElem? (i := 1467) (by decide +kernel), List.mem_of_getElem? (i := 1468) (by decide +kernel)⟩
theorem lw_p79 : lw_okq (⟨"MarkBenchModel", "addNew", "(II)V"⟩, 67) := ⟨⟨by decide +kernel, by decide +kernel⟩, List.mem_of_getElem? (i := 1099) (by decide +kernel), List.mem_of_getElem? (i := 1471) (by decide +kernel), List.mem_of_getElem? (i := 1472) (by decide +kernel)⟩
def lw_privs_5 : List (MethodName × Nat) := [(⟨"MarkBenchModel", "readPair", "(Z)V"⟩, 67), (⟨"MarkBenchModel", "readBare", "()V"⟩, 67), (⟨"MarkBenchModel", "readWords", "()I"⟩, 67), (⟨"MarkBenchModel", "isPlace", "(I)Z"⟩, 67), (⟨"MarkBenchModel", "know", "()V"⟩, 67), (⟨"MarkBenchModel", "readingsOf", "(I)V"⟩, 67), (⟨"MarkBenchModel", "handOf", "(I)I"⟩, 67), (⟨"MarkBenchModel", "addWord", "(II)V"⟩, 67), (⟨"MarkBenchModel", "costOf", "(I)I"⟩, 67), (⟨"MarkBenchModel", "add", "(IIII)I"⟩, 67), (⟨"MarkBenchModel", "countMarks", "(II)V"⟩, 67), (⟨"MarkBenchModel", "isName", "(I)Z"⟩, 67), (⟨"MarkBenchModel", "letterAt", "(II)I"⟩, 67), (⟨"MarkBenchModel", "fits", "([BIIII)Z"⟩, 67), (⟨"MarkBenchModel", "addEnd", "(II)V"⟩, 67), (⟨"MarkBenchModel", "addNew", "(II)V"⟩, 67)]
theorem lw_r5 : ∀ q ∈ lw_privs_5, lw_okq q := List.forall_mem_cons.mpr ⟨lw_p64, List.forall_mem_cons.mpr ⟨lw_p65, List.forall_mem_cons.mpr ⟨lw_p66, List.forall_mem_cons.mpr ⟨lw_p67, List.forall_mem_cons.mpr ⟨lw_p68, List.forall_mem_cons.mpr ⟨lw_p69, List.forall_mem_cons.mpr ⟨lw_p70, List.forall_mem_cons.mpr ⟨lw_p71, List.forall_mem_cons.mpr ⟨lw_p72, List.forall_mem_cons.mpr ⟨lw_p73, List.forall_mem_cons.mpr ⟨lw_p74, List.forall_mem_cons.mpr ⟨lw_p75, List.forall_mem_cons.mpr ⟨lw_p76, List.forall_mem_cons.mpr ⟨lw_p77, List.forall_mem_cons.mpr ⟨lw_p78, List.forall_mem_cons.mpr ⟨lw_p79, fun _ h => absurd h List.not_mem_nil⟩⟩⟩⟩⟩⟩⟩⟩⟩⟩⟩⟩⟩⟩⟩⟩
theorem lw_p80 : lw_okq (⟨"MarkBenchModel", "vowels", "()I"⟩, 67) := ⟨⟨by decide +kernel, by decide +kernel⟩, List.mem_of_getElem? (i := 1099) (by decide +kernel), List.mem_of_getElem? (i := 1475) (by decide +kernel), List.mem_of_getElem? (i := 1476) (by decide +kernel)⟩
theorem lw_p81 : lw_okq (⟨"MarkBenchModel", "reckon", "()V"⟩, 67) := ⟨⟨by decide +kernel, by decide +kernel⟩, List.mem_of_getElem? (i := 1099) (by decide +kernel), List.mem_of_getElem? (i := 1479) (by decide +kernel), List.mem_of_getElem? (i := 1480) (by decide +kernel)⟩
theorem lw_p82 : lw_okq (⟨"MarkBenchModel", "counts", "(II)Z"⟩, 67) := ⟨⟨by decide +kernel, by decide +kernel⟩, List.mem_of_getElem? (i := 1099) (by decide +kernel), List.mem_of_getElem? (i := 1484) (by decide +kernel), List.mem_of_getElem? (i := 1485) (by decide +kernel)⟩
theorem lw_p83 : lw_okq (⟨"MarkBenchModel", "goAhead", "(II)V"⟩, 67) := ⟨⟨by decide +kernel, by decide +kernel⟩, List.mem_of_getElem? (i := 1099) (by decide +kernel), List.mem_of_getElem? (i := 1488) (by decide +kernel), List.mem_of_getElem? (i := 1489) (by decide +kernel)⟩
theorem lw_p84 : lw_okq (⟨"MarkBenchModel", "comes", "(III)I"⟩, 67) := ⟨⟨by decide +kernel, by decide +kernel⟩, List.mem_of_getElem? (i := 1099) (by decide +kernel), List.mem_of_getElem? (i := 1492) (by decide +kernel), List.mem_of_getElem? (i := 1493) (by decide +kernel)⟩
theorem lw_p85 : lw_okq (⟨"MarkBenchModel", "marksOf", "(I)I"⟩, 67) := ⟨⟨by decide +kernel, by decide +kernel⟩, List.mem_of_getElem? (i := 1099) (by decide +kernel), List.mem_of_getElem? (i := 1496) (by decide +kernel), List.mem_of_getElem? (i := 1497) (by decide +kernel)⟩
theorem lw_p86 : lw_okq (⟨"MarkBenchModel", "pair", "(II)I"⟩, 67) := ⟨⟨by decide +kernel, by decide +kernel⟩, List.mem_of_getElem? (i := 1099) (by decide +kernel), List.mem_of_getElem? (i := 1503) (by decide +kernel), List.mem_of_getElem? (i := 1504) (by decide +kernel)⟩
theorem lw_p87 : lw_okq (⟨"MarkBenchModel", "goBehind", "(II)V"⟩, 67) := ⟨⟨by decide +kernel, by decide +kernel⟩, List.mem_of_getElem? (i := 1099) (by decide +kernel), List.mem_of_getElem? (i := 1507) (by decide +kernel), List.mem_of_getElem? (i := 1508) (by decide +kernel)⟩
theorem lw_p88 : lw_okq (⟨"MarkBenchModel", "goesOn", "(III)I"⟩, 67) := ⟨⟨by decide +kernel, by decide +kernel⟩, List.mem_of_getElem? (i := 1099) (by decide +kernel), List.mem_of_getElem? (i := 1511) (by decide +kernel), List.mem_of_getElem? (i := 1512) (by decide +kernel)⟩
theorem lw_p89 : lw_okq (⟨"MarkBenchModel", "isReading", "(II)Z"⟩, 67) := ⟨⟨by decide +kernel, by decide +kernel⟩, List.mem_of_getElem? (i := 1099) (by decide +kernel), List.mem_of_getElem? (i := 1519) (by decide +kernel), List.mem_of_getElem? (i := 1520) (by decide +kernel)⟩
theorem lw_p90 : lw_okq (⟨"MarkBenchModel", "weight", "(II)I"⟩, 67) := ⟨⟨by decide +kernel, by decide +kernel⟩, List.mem_of_getElem? (i := 1099) (by decide +kernel), List.mem_of_getElem? (i := 1523) (by decide +kernel), List.mem_of_getElem? (i := 1524) (by decide +kernel)⟩
theorem lw_p91 : lw_okq (⟨"MarkBenchModel", "through", "(II)I"⟩, 67) := ⟨⟨by decide +kernel, by decide +kernel⟩, List.mem_of_getElem? (i := 1099) (by decide +kernel), List.mem_of_getElem? (i := 1527) (by decide +kernel), List.mem_of_getElem? (i := 1528) (by decide +kernel)⟩
theorem lw_p92 : lw_okq (⟨"MarkBenchModel", "choose", "()V"⟩, 67) := ⟨⟨by decide +kernel, by decide +kernel⟩, List.mem_of_getElem? (i := 1099) (by decide +kernel), List.mem_of_getElem? (i := 1544) (by decide +kernel), List.mem_of_getElem? (i := 1545) (by decide +kernel)⟩
theorem lw_p93 : lw_okq (⟨"MarkBenchModel", "isBestWith", "(IIII)Z"⟩, 67) := ⟨⟨by decide +kernel, by decide +kernel⟩, List.mem_of_getElem? (i := 1099) (by decide +kernel), List.mem_of_getElem? (i := 1548) (by decide +kernel), List.mem_of_getElem? (i := 1549) (by decide +kernel)⟩
theorem lw_p94 : lw_okq (⟨"MarkBenchModel", "clear", "(I)V"⟩, 67) := ⟨⟨by decide +kernel, by decide +kernel⟩, List.mem_of_getElem? (i := 1099) (by decide +kernel), List.mem_of_getElem? (i := 1557) (by decide +kernel), List.mem_of_getElem? (i := 1558) (by decide +kernel)⟩
theorem lw_p95 : lw_okq (⟨"MarkBenchModel", "begin", "(II)V"⟩, 67) := ⟨⟨by decide +kernel, by decide +kernel⟩, List.mem_of_getElem? (i := 1099) (by decide +kernel), List.mem_of_getElem? (i := 1565) (by decide +kernel), List.mem_of_getElem? (i := 1566) (by decide +kernel)⟩
def lw_privs_6 : List (MethodName × Nat) := [(⟨"MarkBenchModel", "vowels", "()I"⟩, 67), (⟨"MarkBenchModel", "reckon", "()V"⟩, 67), (⟨"MarkBenchModel", "counts", "(II)Z"⟩, 67), (⟨"MarkBenchModel", "goAhead", "(II)V"⟩, 67), (⟨"MarkBenchModel", "comes", "(III)I"⟩, 67), (⟨"MarkBenchModel", "marksOf", "(I)I"⟩, 67), (⟨"MarkBenchModel", "pair", "(II)I"⟩, 67), (⟨"MarkBenchModel", "goBehind", "(II)V"⟩, 67), (⟨"MarkBenchModel", "goesOn", "(III)I"⟩, 67), (⟨"MarkBenchModel", "isReading", "(II)Z"⟩, 67), (⟨"MarkBenchModel", "weight", "(II)I"⟩, 67), (⟨"MarkBenchModel", "through", "(II)I"⟩, 67), (⟨"MarkBenchModel", "choose", "()V"⟩, 67), (⟨"MarkBenchModel", "isBestWith", "(IIII)Z"⟩, 67), (⟨"MarkBenchModel", "clear", "(I)V"⟩, 67), (⟨"MarkBenchModel", "begin", "(II)V"⟩, 67)]
theorem lw_r6 : ∀ q ∈ lw_privs_6, lw_okq q := List.forall_mem_cons.mpr ⟨lw_p80, List.forall_mem_cons.mpr ⟨lw_p81, List.forall_mem_cons.mpr ⟨lw_p82, List.forall_mem_cons.mpr ⟨lw_p83, List.forall_mem_cons.mpr ⟨lw_p84, List.forall_mem_cons.mpr ⟨lw_p85, List.forall_mem_cons.mpr ⟨lw_p86, List.forall_mem_cons.mpr ⟨lw_p87, List.forall_mem_cons.mpr ⟨lw_p88, List.forall_mem_cons.mpr ⟨lw_p89, List.forall_mem_cons.mpr ⟨lw_p90, List.forall_mem_cons.mpr ⟨lw_p91, List.forall_mem_cons.mpr ⟨lw_p92, List.forall_mem_cons.mpr ⟨lw_p93, List.forall_mem_cons.mpr ⟨lw_p94, List.forall_mem_cons.mpr ⟨lw_p95, fun _ h => absurd h List.not_mem_nil⟩⟩⟩⟩⟩⟩⟩⟩⟩⟩⟩⟩⟩⟩⟩⟩
theorem lw_p96 : lw_okq (⟨"MarkBenchModel", "rest", "(III)I"⟩, 67) := ⟨⟨by decide +kernel, by decide +kernel⟩, List.mem_of_getElem? (i := 1099) (by decide +kernel), List.mem_of_getElem? (i := 1569) (by decide +kernel), List.mem_of_getElem? (i := 1570) (by decide +kernel)⟩
theorem lw_p97 : lw_okq (⟨"MarkBenchModel", "hasAny", "(IIII)Z"⟩, 67) := ⟨⟨by decide +kernel, by decide +kernel⟩, List.mem_of_getElem? (i := 1099) (by decide +kernel), List.mem_of_getElem? (i := 1573) (by decide +kernel), List.mem_of_getElem? (i := 1574) (by decide +kernel)⟩
theorem lw_p98 : lw_okq (⟨"MarkBenchModel", "spread", "(IIIII)V"⟩, 67) := ⟨⟨by decide +kernel, by decide +kernel⟩, List.mem_of_getElem? (i := 1099) (by decide +kernel), List.mem_of_getElem? (i := 1577) (by decide +kernel), List.mem_of_getElem? (i := 1578) (by decide +kernel)⟩
theorem lw_p99 : lw_okq (⟨"MarkBenchModel", "isSure", "(II)Z"⟩, 67) := ⟨⟨by decide +kernel, by decide +kernel⟩, List.mem_of_getElem? (i := 1099) (by decide +kernel), List.mem_of_getElem? (i := 1588) (by decide +kernel), List.mem_of_getElem? (i := 1589) (by decide +kernel)⟩
theorem lw_p100 : lw_okq (⟨"MarkBenchModel", "firstNear", "(II)I"⟩, 67) := ⟨⟨by decide +kernel, by decide +kernel⟩, List.mem_of_getElem? (i := 1099) (by decide +kernel), List.mem_of_getElem? (i := 1592) (by decide +kernel), List.mem_of_getElem? (i := 1593) (by decide +kernel)⟩
def lw_privs_7 : List (MethodName × Nat) := [(⟨"MarkBenchModel", "rest", "(III)I"⟩, 67), (⟨"MarkBenchModel", "hasAny", "(IIII)Z"⟩, 67), (⟨"MarkBenchModel", "spread", "(IIIII)V"⟩, 67), (⟨"MarkBenchModel", "isSure", "(II)Z"⟩, 67), (⟨"MarkBenchModel", "firstNear", "(II)I"⟩, 67)]
theorem lw_r7 : ∀ q ∈ lw_privs_7, lw_okq q := List.forall_mem_cons.mpr ⟨lw_p96, List.forall_mem_cons.mpr ⟨lw_p97, List.forall_mem_cons.mpr ⟨lw_p98, List.forall_mem_cons.mpr ⟨lw_p99, List.forall_mem_cons.mpr ⟨lw_p100, fun _ h => absurd h List.not_mem_nil⟩⟩⟩⟩⟩
def lw_privs : List (MethodName × Nat) := lw_privs_1 ++ (lw_privs_2 ++ (lw_privs_3 ++ (lw_privs_4 ++ (lw_privs_5 ++ (lw_privs_6 ++ (lw_privs_7))))))
def lw_tbl : List Cond := k2_sels lw_privs ++ tables_1
theorem lw_privs_ok : ∀ q ∈ lw_privs, lw_okq q := by
  show ∀ q ∈ lw_privs_1 ++ (lw_privs_2 ++ (lw_privs_3 ++ (lw_privs_4 ++ (lw_privs_5 ++ (lw_privs_6 ++ (lw_privs_7)))))), lw_okq q
  exact List.forall_mem_append.mpr ⟨lw_r1, List.forall_mem_append.mpr ⟨lw_r2, List.forall_mem_append.mpr ⟨lw_r3, List.forall_mem_append.mpr ⟨lw_r4, List.forall_mem_append.mpr ⟨lw_r5, List.forall_mem_append.mpr ⟨lw_r6, lw_r7⟩⟩⟩⟩⟩⟩
-- ===== end of PART A; then your names; then what follows =====
end
section
def o_N : List String := ["MarkBenchLaw", "MarkBench", "MarkBench$Book", "MarkBench$BookReader", "MarkBench$Choices", "MarkBench$Forms", "MarkBench$Hands", "MarkBench$Letters", "MarkBench$Line", "MarkBench$Sheet", "MarkBench$Tally", "MarkBench$Tokens", "MarkBench$Walk", "MarkBenchModel", "java/util/Arrays", "java/lang/String", "java/lang/StringLatin1", "jdk/internal/util/Preconditions"]
def T_0 : u_T := fun k => match k with
  | 0 => ("MarkBench$Book", "words", "LMarkBench$Forms;", true)
  | 1 => ("MarkBench$Book", "kinds", "[I", true)
  | 2 => ("MarkBench$Book", "costs", "[I", true)
  | 3 => ("MarkBench$Book", "since", "[I", true)
  | 4 => ("MarkBench$Book", "until", "[I", true)
  | 5 => ("MarkBench$Book", "learnt", "[I", true)
  | 6 => ("MarkBench$Book", "ends", "LMarkBench$Forms;", true)
  | 7 => ("MarkBench$Book", "endKinds", "[I", true)
  | 8 => ("MarkBench$Book", "endCosts", "[I", true)
  | 9 => ("MarkBench$Book", "names", "LMarkBench$Forms;", true)
  | 10 => ("MarkBench$Book", "pairCosts", "[I", true)
  | 11 => ("MarkBench$Book", "pairTold", "[Z", true)
  | 12 => ("MarkBench$Book", "pairCount", "I", false)
  | 13 => ("MarkBench$Book", "bareTold", "Z", false)
  | 14 => ("MarkBench$Book", "bareKind", "I", false)
  | _ => ("MarkBench$Book", "bareCost", "I", false)
def ty_0 : Nat → FieldType := fun k => match k with
  | 0 => .object "MarkBench$Forms"
  | 1 => .array .int
  | 2 => .array .int
  | 3 => .array .int
  | 4 => .array .int
  | 5 => .array .int
  | 6 => .object "MarkBench$Forms"
  | 7 => .array .int
  | 8 => .array .int
  | 9 => .object "MarkBench$Forms"
  | 10 => .array .int
  | 11 => .array .boolean
  | 12 => .int
  | 13 => .boolean
  | 14 => .int
  | _ => .int
def T_1 : u_T := fun k => match k with
  | 0 => ("MarkBench$BookReader", "fault", "I", false)
  | 1 => ("MarkBench$BookReader", "faultAt", "I", false)
  | 2 => ("MarkBench$BookReader", "book", "LMarkBench$Book;", false)
  | 3 => ("MarkBench$BookReader", "text", "[C", true)
  | 4 => ("MarkBench$BookReader", "tokens", "LMarkBench$Tokens;", true)
  | 5 => ("MarkBench$BookReader", "next", "I", false)
  | 6 => ("MarkBench$BookReader", "sort", "I", false)
  | 7 => ("MarkBench$BookReader", "at", "I", false)
  | 8 => ("MarkBench$BookReader", "length", "I", false)
  | _ => ("MarkBench$BookReader", "value", "I", false)
def ty_1 : Nat → FieldType := fun k => match k with
  | 0 => .int
  | 1 => .int
  | 2 => .object "MarkBench$Book"
  | 3 => .array .char
  | 4 => .object "MarkBench$Tokens"
  | 5 => .int
  | 6 => .int
  | 7 => .int
  | 8 => .int
  | _ => .int
def T_2 : u_T := fun k => match k with
  | 0 => ("MarkBench$Choices", "counts", "[I", true)
  | 1 => ("MarkBench$Choices", "bareWeights", "[I", true)
  | 2 => ("MarkBench$Choices", "spellings", "LMarkBench$Forms;", true)
  | 3 => ("MarkBench$Choices", "kinds", "[I", true)
  | 4 => ("MarkBench$Choices", "costs", "[I", true)
  | 5 => ("MarkBench$Choices", "gains", "[I", true)
  | 6 => ("MarkBench$Choices", "entries", "[I", true)
  | 7 => ("MarkBench$Choices", "draft", "[C", true)
  | _ => ("MarkBench$Choices", "words", "I", false)
def ty_2 : Nat → FieldType := fun k => match k with
  | 0 => .array .int
  | 1 => .array .int
  | 2 => .object "MarkBench$Forms"
  | 3 => .array .int
  | 4 => .array .int
  | 5 => .array .int
  | 6 => .array .int
  | 7 => .array .char
  | _ => .int
def T_3 : u_T := fun k => match k with
  | 0 => ("MarkBench$Forms", "letters", "[C", true)
  | 1 => ("MarkBench$Forms", "lengths", "[I", true)
  | _ => ("MarkBench$Forms", "count", "I", false)
def ty_3 : Nat → FieldType := fun k => match k with
  | 0 => .array .char
  | 1 => .array .int
  | _ => .int
def T_4 : u_T := fun k => match k with
  | 0 => ("MarkBench$Hands", "words", "[I", true)
  | 1 => ("MarkBench$Hands", "entries", "[I", true)
  | 2 => ("MarkBench$Hands", "taken", "[Z", true)
  | _ => ("MarkBench$Hands", "count", "I", false)
def ty_4 : Nat → FieldType := fun k => match k with
  | 0 => .array .int
  | 1 => .array .int
  | 2 => .array .boolean
  | _ => .int
def T_5 : u_T := fun k => match k with
  | 0 => ("MarkBench$Line", "text", "[C", true)
  | 1 => ("MarkBench$Line", "starts", "[I", true)
  | 2 => ("MarkBench$Line", "lengths", "[I", true)
  | 3 => ("MarkBench$Line", "kept", "[Z", true)
  | 4 => ("MarkBench$Line", "length", "I", false)
  | 5 => ("MarkBench$Line", "words", "I", false)
  | _ => ("MarkBench$Line", "day", "I", false)
def ty_5 : Nat → FieldType := fun k => match k with
  | 0 => .array .char
  | 1 => .array .int
  | 2 => .array .int
  | 3 => .array .boolean
  | 4 => .int
  | 5 => .int
  | _ => .int
def T_6 : u_T := fun k => match k with
  | 0 => ("MarkBench$Sheet", "choices", "LMarkBench$Choices;", true)
  | 1 => ("MarkBench$Sheet", "walk", "LMarkBench$Walk;", true)
  | 2 => ("MarkBench$Sheet", "tally", "LMarkBench$Tally;", true)
  | 3 => ("MarkBench$Sheet", "through", "[I", true)
  | 4 => ("MarkBench$Sheet", "chosen", "[I", true)
  | 5 => ("MarkBench$Sheet", "ifRead", "[I", true)
  | 6 => ("MarkBench$Sheet", "ifReadKnown", "[Z", true)
  | 7 => ("MarkBench$Sheet", "least", "I", false)
  | 8 => ("MarkBench$Sheet", "pairCosts", "[I", false)
  | 9 => ("MarkBench$Sheet", "metre", "I", false)
  | 10 => ("MarkBench$Sheet", "solved", "Z", false)
  | _ => ("MarkBench$Sheet", "counted", "Z", false)
def ty_6 : Nat → FieldType := fun k => match k with
  | 0 => .object "MarkBench$Choices"
  | 1 => .object "MarkBench$Walk"
  | 2 => .object "MarkBench$Tally"
  | 3 => .array .int
  | 4 => .array .int
  | 5 => .array .int
  | 6 => .array .boolean
  | 7 => .int
  | 8 => .array .int
  | 9 => .int
  | 10 => .boolean
  | _ => .boolean
def T_7 : u_T := fun k => match k with
  | 0 => ("MarkBench$Tally", "walk", "LMarkBench$Walk;", true)
  | 1 => ("MarkBench$Tally", "choices", "LMarkBench$Choices;", true)
  | 2 => ("MarkBench$Tally", "within", "[J", true)
  | 3 => ("MarkBench$Tally", "here", "[J", false)
  | _ => ("MarkBench$Tally", "there", "[J", false)
def ty_7 : Nat → FieldType := fun k => match k with
  | 0 => .object "MarkBench$Walk"
  | 1 => .object "MarkBench$Choices"
  | 2 => .array .long
  | 3 => .array .long
  | _ => .array .long
def T_8 : u_T := fun k => match k with
  | 0 => ("MarkBench$Tokens", "sorts", "[I", true)
  | 1 => ("MarkBench$Tokens", "places", "[I", true)
  | 2 => ("MarkBench$Tokens", "lengths", "[I", true)
  | 3 => ("MarkBench$Tokens", "values", "[I", true)
  | _ => ("MarkBench$Tokens", "count", "I", false)
def ty_8 : Nat → FieldType := fun k => match k with
  | 0 => .array .int
  | 1 => .array .int
  | 2 => .array .int
  | 3 => .array .int
  | _ => .int
def T_9 : u_T := fun k => match k with
  | 0 => ("MarkBench$Walk", "choices", "LMarkBench$Choices;", true)
  | 1 => ("MarkBench$Walk", "lows", "[I", true)
  | 2 => ("MarkBench$Walk", "highs", "[I", true)
  | 3 => ("MarkBench$Walk", "gains", "[I", true)
  | 4 => ("MarkBench$Walk", "pairCosts", "[I", false)
  | 5 => ("MarkBench$Walk", "kindSets", "[I", true)
  | 6 => ("MarkBench$Walk", "rest", "[I", true)
  | 7 => ("MarkBench$Walk", "passed", "[I", true)
  | 8 => ("MarkBench$Walk", "entering", "[I", true)
  | 9 => ("MarkBench$Walk", "open", "Z", false)
  | 10 => ("MarkBench$Walk", "fixedWord", "I", false)
  | _ => ("MarkBench$Walk", "fixedReading", "I", false)
def ty_9 : Nat → FieldType := fun k => match k with
  | 0 => .object "MarkBench$Choices"
  | 1 => .array .int
  | 2 => .array .int
  | 3 => .array .int
  | 4 => .array .int
  | 5 => .array .int
  | 6 => .array .int
  | 7 => .array .int
  | 8 => .array .int
  | 9 => .boolean
  | 10 => .int
  | _ => .int
def T_10 : u_T := fun k => match k with
  | 0 => ("MarkBench", "tape", "[C", true)
  | 1 => ("MarkBench", "reader", "LMarkBench$BookReader;", true)
  | 2 => ("MarkBench", "hands", "LMarkBench$Hands;", true)
  | 3 => ("MarkBench", "choices", "LMarkBench$Choices;", true)
  | 4 => ("MarkBench", "sheet", "LMarkBench$Sheet;", true)
  | 5 => ("MarkBench", "tapeLength", "I", false)
  | 6 => ("MarkBench", "book", "LMarkBench$Book;", false)
  | 7 => ("MarkBench", "line", "LMarkBench$Line;", false)
  | 8 => ("MarkBench", "spareLine", "LMarkBench$Line;", false)
  | 9 => ("MarkBench", "faultKind", "I", false)
  | 10 => ("MarkBench", "faultAt", "I", false)
  | _ => ("MarkBench", "metre", "I", false)
def ty_10 : Nat → FieldType := fun k => match k with
  | 0 => .array .char
  | 1 => .object "MarkBench$BookReader"
  | 2 => .object "MarkBench$Hands"
  | 3 => .object "MarkBench$Choices"
  | 4 => .object "MarkBench$Sheet"
  | 5 => .int
  | 6 => .object "MarkBench$Book"
  | 7 => .object "MarkBench$Line"
  | 8 => .object "MarkBench$Line"
  | 9 => .int
  | 10 => .int
  | _ => .int
def T_11 : u_T := fun k => match k with
  | 0 => ("MarkBenchModel", "tape", "[B", true)
  | 1 => ("MarkBenchModel", "src", "[B", true)
  | 2 => ("MarkBenchModel", "taped", "I", false)
  | 3 => ("MarkBenchModel", "size", "I", false)
  | 4 => ("MarkBenchModel", "faultKind", "I", false)
  | 5 => ("MarkBenchModel", "faultPlace", "I", false)
  | 6 => ("MarkBenchModel", "at", "I", false)
  | 7 => ("MarkBenchModel", "end", "I", false)
  | 8 => ("MarkBenchModel", "token", "I", false)
  | 9 => ("MarkBenchModel", "number", "I", false)
  | 10 => ("MarkBenchModel", "name", "J", false)
  | 11 => ("MarkBenchModel", "wForm", "[B", true)
  | 12 => ("MarkBenchModel", "eOne", "[B", true)
  | 13 => ("MarkBenchModel", "eTwo", "[B", true)
  | 14 => ("MarkBenchModel", "nForm", "[B", true)
  | 15 => ("MarkBenchModel", "wSize", "[I", true)
  | 16 => ("MarkBenchModel", "wKind", "[I", true)
  | 17 => ("MarkBenchModel", "wCost", "[I", true)
  | 18 => ("MarkBenchModel", "wSince", "[I", true)
  | 19 => ("MarkBenchModel", "wUntil", "[I", true)
  | 20 => ("MarkBenchModel", "eSize", "[I", true)
  | 21 => ("MarkBenchModel", "eKind", "[I", true)
  | 22 => ("MarkBenchModel", "eCost", "[I", true)
  | 23 => ("MarkBenchModel", "nSize", "[I", true)
  | 24 => ("MarkBenchModel", "pairCost", "[I", true)
  | 25 => ("MarkBenchModel", "wMany", "[I", true)
  | 26 => ("MarkBenchModel", "eMany", "[I", true)
  | 27 => ("MarkBenchModel", "nMany", "[I", true)
  | 28 => ("MarkBenchModel", "pMany", "[I", true)
  | 29 => ("MarkBenchModel", "bareKind", "[I", true)
  | 30 => ("MarkBenchModel", "bareCost", "[I", true)
  | 31 => ("MarkBenchModel", "hasBare", "[Z", true)
  | 32 => ("MarkBenchModel", "bank", "I", false)
  | 33 => ("MarkBenchModel", "rb", "I", false)
  | 34 => ("MarkBenchModel", "line", "[B", true)
  | 35 => ("MarkBenchModel", "pFrom", "[I", true)
  | 36 => ("MarkBenchModel", "pSize", "[I", true)
  | 37 => ("MarkBenchModel", "isKept", "[Z", true)
  | 38 => ("MarkBenchModel", "placeMany", "I", false)
  | 39 => ("MarkBenchModel", "lineSize", "I", false)
  | 40 => ("MarkBenchModel", "lineDay", "I", false)
  | 41 => ("MarkBenchModel", "lines", "I", false)
  | 42 => ("MarkBenchModel", "qFrom", "[I", true)
  | 43 => ("MarkBenchModel", "qSize", "[I", true)
  | 44 => ("MarkBenchModel", "qKept", "[Z", true)
  | 45 => ("MarkBenchModel", "metre", "I", false)
  | 46 => ("MarkBenchModel", "rForm", "[B", true)
  | 47 => ("MarkBenchModel", "rMany", "[I", true)
  | 48 => ("MarkBenchModel", "rKind", "[I", true)
  | 49 => ("MarkBenchModel", "rCost", "[I", true)
  | 50 => ("MarkBenchModel", "rWord", "[I", true)
  | 51 => ("MarkBenchModel", "rMarks", "[I", true)
  | 52 => ("MarkBenchModel", "learnt", "[I", true)
  | 53 => ("MarkBenchModel", "isKnown", "Z", false)
  | 54 => ("MarkBenchModel", "ahead", "[I", true)
  | 55 => ("MarkBenchModel", "behind", "[I", true)
  | 56 => ("MarkBenchModel", "target", "I", false)
  | 57 => ("MarkBenchModel", "bestCost", "I", false)
  | 58 => ("MarkBenchModel", "only", "I", false)
  | 59 => ("MarkBenchModel", "onlyReading", "I", false)
  | 60 => ("MarkBenchModel", "chosen", "[I", true)
  | 61 => ("MarkBenchModel", "many", "[J", true)
  | 62 => ("MarkBenchModel", "hWord", "[I", true)
  | 63 => ("MarkBenchModel", "hPlace", "[I", true)
  | 64 => ("MarkBenchModel", "hLine", "[I", true)
  | 65 => ("MarkBenchModel", "isBack", "[Z", true)
  | _ => ("MarkBenchModel", "hands", "I", false)
def ty_11 : Nat → FieldType := fun k => match k with
  | 0 => .array .byte
  | 1 => .array .byte
  | 2 => .int
  | 3 => .int
  | 4 => .int
  | 5 => .int
  | 6 => .int
  | 7 => .int
  | 8 => .int
  | 9 => .int
  | 10 => .long
  | 11 => .array .byte
  | 12 => .array .byte
  | 13 => .array .byte
  | 14 => .array .byte
  | 15 => .array .int
  | 16 => .array .int
  | 17 => .array .int
  | 18 => .array .int
  | 19 => .array .int
  | 20 => .array .int
  | 21 => .array .int
  | 22 => .array .int
  | 23 => .array .int
  | 24 => .array .int
  | 25 => .array .int
  | 26 => .array .int
  | 27 => .array .int
  | 28 => .array .int
  | 29 => .array .int
  | 30 => .array .int
  | 31 => .array .boolean
  | 32 => .int
  | 33 => .int
  | 34 => .array .byte
  | 35 => .array .int
  | 36 => .array .int
  | 37 => .array .boolean
  | 38 => .int
  | 39 => .int
  | 40 => .int
  | 41 => .int
  | 42 => .array .int
  | 43 => .array .int
  | 44 => .array .boolean
  | 45 => .int
  | 46 => .array .byte
  | 47 => .array .int
  | 48 => .array .int
  | 49 => .array .int
  | 50 => .array .int
  | 51 => .array .int
  | 52 => .array .int
  | 53 => .boolean
  | 54 => .array .int
  | 55 => .array .int
  | 56 => .int
  | 57 => .int
  | 58 => .int
  | 59 => .int
  | 60 => .array .int
  | 61 => .array .long
  | 62 => .array .int
  | 63 => .array .int
  | 64 => .array .int
  | 65 => .array .boolean
  | _ => .int
def c_R : List (String × u_T × Nat × (Nat → FieldType)) := [("MarkBench$Book", T_0, 16, ty_0), ("MarkBench$BookReader", T_1, 10, ty_1), ("MarkBench$Choices", T_2, 9, ty_2), ("MarkBench$Forms", T_3, 3, ty_3), ("MarkBench$Hands", T_4, 4, ty_4), ("MarkBench$Line", T_5, 7, ty_5), ("MarkBench$Sheet", T_6, 12, ty_6), ("MarkBench$Tally", T_7, 5, ty_7), ("MarkBench$Tokens", T_8, 5, ty_8), ("MarkBench$Walk", T_9, 12, ty_9), ("MarkBench", T_10, 12, ty_10), ("MarkBenchModel", T_11, 67, ty_11)]
def a_cls : List vw_C := [("MarkBench$Book", T_0, 16), ("MarkBench$BookReader", T_1, 10), ("MarkBench$Choices", T_2, 9), ("MarkBench$Forms", T_3, 3), ("MarkBench$Hands", T_4, 4), ("MarkBench$Line", T_5, 7), ("MarkBench$Sheet", T_6, 12), ("MarkBench$Tally", T_7, 5), ("MarkBench$Tokens", T_8, 5), ("MarkBench$Walk", T_9, 12), ("MarkBench", T_10, 12), ("MarkBenchModel", T_11, 67)]
abbrev a_M : Type := MethodName × ByteArray × Nat × Option FieldType × Nat × Nat × Nat
def m_T0 : List a_M := [(⟨"MarkBenchLaw", "law", "([I)Z"⟩, code, 4, (some .boolean), 0, 10, 215), (⟨"MarkBench", "<init>", "()V"⟩, prog_1_method_1_code, 1, none, 1, 8, 190), (⟨"MarkBench$BookReader", "<init>", "([C)V"⟩, prog_3_method_1_code, 2, none, 3, 3, 61), (⟨"MarkBench$Book", "<init>", "()V"⟩, prog_2_method_1_code, 1, none, 2, 2, 41), (⟨"MarkBench$Forms", "<init>", "(I)V"⟩, prog_5_method_1_code, 2, none, 5, 1, 20), (⟨"MarkBench$Tokens", "<init>", "()V"⟩, prog_11_method_1_code, 1, none, 11, 1, 20), (⟨"MarkBench$Hands", "<init>", "()V"⟩, prog_6_method_1_code, 1, none, 6, 1, 20), (⟨"MarkBench$Choices", "<init>", "()V"⟩, prog_4_method_1_code, 1, none, 4, 2, 41), (⟨"MarkBench$Sheet", "<init>", "(LMarkBench$Choices;)V"⟩, prog_9_method_1_code, 2, none, 9, 2, 41), (⟨"MarkBench$Walk", "<init>", "(LMarkBench$Choices;)V"⟩, prog_12_method_1_code, 2, none, 12, 1, 20), (⟨"MarkBench$Tally", "<init>", "(LMarkBench$Walk;)V"⟩, prog_10_method_1_code, 2, none, 10, 1, 20), (⟨"MarkBench$Line", "<init>", "()V"⟩, prog_8_method_1_code, 1, none, 8, 1, 20), (⟨"MarkBench", "refresh", "()V"⟩, prog_1_method_23_code, 2, none, 1, 7, 169), (⟨"MarkBench$Hands", "standing", "(I)I"⟩, prog_6_method_6_code, 3, (some .int), 6, 0, 0), (⟨"MarkBench$Choices", "fill", "(ILMarkBench$Line;LMarkBench$Book;I)V"⟩, prog_4_method_4_code, 7, none, 4, 6, 143), (⟨"MarkBench$Choices", "addEntry", "(ILMarkBench$Book;I)V"⟩, prog_4_method_8_code, 6, none, 4, 3, 91), (⟨"MarkBench$Forms", "startOf", "(I)I"⟩, prog_5_method_4_code, 2, (some .int), 5, 0, 0), (⟨"MarkBench$Book", "costOf", "(I)I"⟩, prog_2_method_6_code, 2, (some .int), 2, 1, 21), (⟨"MarkBench$Choices", "add", "(I[CIIII)I"⟩, prog_4_method_9_code, 8, (some .int), 4, 2, 64), (⟨"MarkBench$Forms", "put", "(I[CII)V"⟩, prog_5_method_2_code, 5, none, 5, 1, 40), (⟨"MarkBench$Book", "hasName", "([CII)Z"⟩, prog_2_method_4_code, 5, (some .boolean), 2, 2, 49), (⟨"MarkBench$Forms", "isAlike", "(I[CII)Z"⟩, prog_5_method_7_code, 5, (some .boolean), 5, 1, 25), (⟨"MarkBench$Letters", "areAlike", "([CI[CII)Z"⟩, prog_7_method_6_code, 6, (some .boolean), 7, 0, 0), (⟨"MarkBench$Choices", "fillByWords", "(ILMarkBench$Line;LMarkBench$Book;)V"⟩, prog_4_method_5_code, 8, none, 4, 4, 116), (⟨"MarkBench$Book", "isInForce", "(II)Z"⟩, prog_2_method_5_code, 3, (some .boolean), 2, 0, 0), (⟨"MarkBench$Letters", "keepsMarks", "([CI[CII)Z"⟩, prog_7_method_8_code, 6, (some .boolean), 7, 1, 20), (⟨"MarkBench$Letters", "isMarked", "(C)Z"⟩, prog_7_method_2_code, 1, (some .boolean), 7, 0, 0), (⟨"MarkBench$Choices", "fillByEnds", "(ILMarkBench$Line;LMarkBench$Book;)V"⟩, prog_4_method_6_code, 10, none, 4, 3, 91), (⟨"MarkBench$Choices", "isNew", "(I[CII)Z"⟩, prog_4_method_7_code, 7, (some .boolean), 4, 2, 49), (⟨"MarkBench$Forms", "isSpelled", "(I[CII)Z"⟩, prog_5_method_6_code, 5, (some .boolean), 5, 1, 25), (⟨"MarkBench$Letters", "areSame", "([CI[CII)Z"⟩, prog_7_method_7_code, 6, (some .boolean), 7, 0, 0), (⟨"MarkBench$Choices", "weigh", "(I)V"⟩, prog_4_method_10_code, 8, none, 4, 5, 111), (⟨"MarkBench$Forms", "letterAt", "(II)C"⟩, prog_5_method_5_code, 3, (some .char), 5, 1, 21), (⟨"MarkBench$Letters", "isVowel", "(C)Z"⟩, prog_7_method_5_code, 1, (some .boolean), 7, 4, 91), (⟨"MarkBench$Sheet", "forget", "([II)V"⟩, prog_9_method_2_code, 3, none, 9, 0, 0), (⟨"MarkBench", "feed", "(IIIII)I"⟩, prog_1_method_2_code, 6, (some .int), 1, 1, 22), (⟨"MarkBench", "putOnTape", "(I)V"⟩, prog_1_method_22_code, 3, none, 1, 0, 0), (⟨"MarkBench", "end", "(I)I"⟩, prog_1_method_3_code, 2, (some .int), 1, 0, 0), (⟨"MarkBench", "book", "()I"⟩, prog_1_method_4_code, 3, (some .int), 1, 9, 193), (⟨"MarkBench$BookReader", "read", "(I)Z"⟩, prog_3_method_2_code, 3, (some .boolean), 3, 8, 171)]
def m_T1 : List a_M := [(⟨"MarkBench$Book", "clear", "()V"⟩, prog_2_method_2_code, 2, none, 2, 1, 23), (⟨"java/util/Arrays", "fill", "([II)V"⟩, prog_21_method_103_code, 4, none, 14, 0, 0), (⟨"MarkBench$Tokens", "split", "([CI)V"⟩, prog_11_method_2_code, 7, none, 11, 2, 50), (⟨"MarkBench$Letters", "isLetter", "(C)Z"⟩, prog_7_method_3_code, 1, (some .boolean), 7, 0, 0), (⟨"MarkBench$Tokens", "addForm", "([CII)I"⟩, prog_11_method_3_code, 6, (some .int), 11, 1, 24), (⟨"MarkBench$Tokens", "add", "(IIII)V"⟩, prog_11_method_5_code, 5, none, 11, 0, 0), (⟨"MarkBench$Letters", "isDigit", "(C)Z"⟩, prog_7_method_4_code, 1, (some .boolean), 7, 0, 0), (⟨"MarkBench$Tokens", "addNumber", "([CII)I"⟩, prog_11_method_4_code, 7, (some .int), 11, 1, 24), (⟨"MarkBench$BookReader", "advance", "()V"⟩, prog_3_method_17_code, 1, none, 3, 0, 0), (⟨"MarkBench$BookReader", "readLine", "()Z"⟩, prog_3_method_3_code, 1, (some .boolean), 3, 7, 151), (⟨"MarkBench$BookReader", "isWord", "(Ljava/lang/String;)Z"⟩, prog_3_method_16_code, 3, (some .boolean), 3, 4, 85), (⟨"MarkBench$BookReader", "readWord", "()Z"⟩, prog_3_method_4_code, 4, (some .boolean), 3, 6, 128), (⟨"MarkBench$BookReader", "misplaced", "()Z"⟩, prog_3_method_14_code, 1, (some .boolean), 3, 0, 0), (⟨"MarkBench$BookReader", "takeForm", "()Z"⟩, prog_3_method_10_code, 1, (some .boolean), 3, 2, 41), (⟨"MarkBench$BookReader", "stands", "(I)Z"⟩, prog_3_method_13_code, 2, (some .boolean), 3, 1, 20), (⟨"MarkBench$BookReader", "takeNumber", "(I)Z"⟩, prog_3_method_12_code, 2, (some .boolean), 3, 1, 22), (⟨"MarkBench$BookReader", "refuse", "(II)Z"⟩, prog_3_method_15_code, 3, (some .boolean), 3, 0, 0), (⟨"MarkBench$Book", "hasWord", "([CIII)Z"⟩, prog_2_method_3_code, 6, (some .boolean), 2, 2, 49), (⟨"MarkBench$BookReader", "readDays", "(I)Z"⟩, prog_3_method_5_code, 2, (some .boolean), 3, 5, 107), (⟨"MarkBench$Forms", "add", "([CII)V"⟩, prog_5_method_3_code, 4, none, 5, 2, 64), (⟨"MarkBench$BookReader", "readEnd", "()Z"⟩, prog_3_method_6_code, 5, (some .boolean), 3, 3, 87), (⟨"MarkBench$BookReader", "takeSign", "()Z"⟩, prog_3_method_11_code, 1, (some .boolean), 3, 2, 41), (⟨"MarkBench$BookReader", "readName", "()Z"⟩, prog_3_method_7_code, 3, (some .boolean), 3, 3, 87), (⟨"MarkBench$BookReader", "readPair", "(Z)Z"⟩, prog_3_method_8_code, 5, (some .boolean), 3, 3, 61), (⟨"MarkBench$Book", "tellPair", "(II)V"⟩, prog_2_method_7_code, 3, none, 2, 0, 0), (⟨"MarkBench$BookReader", "readBare", "()Z"⟩, prog_3_method_9_code, 1, (some .boolean), 3, 3, 61), (⟨"MarkBench$Line", "clear", "()V"⟩, prog_8_method_2_code, 1, none, 8, 0, 0), (⟨"MarkBench$Hands", "clear", "()V"⟩, prog_6_method_2_code, 1, none, 6, 0, 0), (⟨"MarkBench", "line", "(I)I"⟩, prog_1_method_5_code, 3, (some .int), 1, 8, 190), (⟨"MarkBench$Line", "read", "([CII)I"⟩, prog_8_method_3_code, 8, (some .int), 8, 1, 40), (⟨"MarkBench$Line", "begin", "(IZ)V"⟩, prog_8_method_4_code, 3, none, 8, 0, 0), (⟨"MarkBench$Hands", "leaveLine", "()V"⟩, prog_6_method_3_code, 2, none, 6, 0, 0), (⟨"MarkBench", "fault", "(I)I"⟩, prog_1_method_6_code, 2, (some .int), 1, 0, 0), (⟨"MarkBench", "metre", "(I)Z"⟩, prog_1_method_7_code, 2, (some .boolean), 1, 1, 22), (⟨"MarkBench", "readings", "(I)I"⟩, prog_1_method_8_code, 2, (some .int), 1, 1, 21), (⟨"MarkBench$Choices", "hasWord", "(I)Z"⟩, prog_4_method_2_code, 2, (some .boolean), 4, 0, 0), (⟨"MarkBench", "reading", "(III)I"⟩, prog_1_method_9_code, 5, (some .int), 1, 7, 167), (⟨"MarkBench$Choices", "slotOf", "(II)I"⟩, prog_4_method_3_code, 3, (some .int), 4, 1, 21), (⟨"MarkBench$Sheet", "costThrough", "(I)I"⟩, prog_9_method_5_code, 2, (some .int), 9, 6, 146), (⟨"MarkBench$Sheet", "workOut", "()V"⟩, prog_9_method_3_code, 2, none, 9, 5, 125)]
def m_T2 : List a_M := [(⟨"MarkBench$Walk", "prepare", "([II)V"⟩, prog_12_method_2_code, 7, none, 12, 3, 68), (⟨"MarkBench$Walk", "bound", "(I)V"⟩, prog_12_method_3_code, 5, none, 12, 2, 44), (⟨"MarkBench$Walk", "leastGain", "(I)I"⟩, prog_12_method_4_code, 4, (some .int), 12, 1, 21), (⟨"MarkBench$Walk", "mostGain", "(I)I"⟩, prog_12_method_5_code, 4, (some .int), 12, 1, 21), (⟨"MarkBench$Walk", "solve", "(II[II)I"⟩, prog_12_method_6_code, 7, (some .int), 12, 4, 99), (⟨"java/util/Arrays", "fill", "([IIII)V"⟩, prog_21_method_104_code, 5, none, 14, 1, 22), (⟨"java/util/Arrays", "rangeCheck", "(III)V"⟩, prog_21_method_30_code, 3, none, 14, 0, 0), (⟨"MarkBench$Walk", "walkBack", "()V"⟩, prog_12_method_12_code, 3, none, 12, 3, 77), (⟨"MarkBench$Walk", "hasKind", "(II)Z"⟩, prog_12_method_9_code, 3, (some .boolean), 12, 0, 0), (⟨"MarkBench$Walk", "fillRest", "(II)V"⟩, prog_12_method_13_code, 12, none, 12, 2, 46), (⟨"MarkBench$Walk", "stateOf", "(II)I"⟩, prog_12_method_10_code, 3, (some .int), 12, 0, 0), (⟨"MarkBench$Walk", "firstSlot", "(I)I"⟩, prog_12_method_7_code, 2, (some .int), 12, 0, 0), (⟨"MarkBench$Walk", "lastSlot", "(I)I"⟩, prog_12_method_8_code, 2, (some .int), 12, 0, 0), (⟨"MarkBench$Walk", "walkOn", "([II)V"⟩, prog_12_method_14_code, 5, none, 12, 3, 70), (⟨"MarkBench$Walk", "enter", "(I)V"⟩, prog_12_method_15_code, 5, none, 12, 2, 46), (⟨"MarkBench$Walk", "enterFrom", "(III)V"⟩, prog_12_method_16_code, 6, none, 12, 1, 21), (⟨"MarkBench$Walk", "pass", "(II)I"⟩, prog_12_method_17_code, 14, (some .int), 12, 1, 22), (⟨"MarkBench$Walk", "follow", "(I[I)V"⟩, prog_12_method_18_code, 13, none, 12, 2, 45), (⟨"MarkBench$Walk", "restOf", "(III)I"⟩, prog_12_method_11_code, 4, (some .int), 12, 1, 22), (⟨"MarkBench", "letter", "(III)I"⟩, prog_1_method_10_code, 5, (some .int), 1, 2, 43), (⟨"MarkBench", "best", "()I"⟩, prog_1_method_11_code, 1, (some .int), 1, 7, 166), (⟨"MarkBench$Sheet", "hasWay", "()Z"⟩, prog_9_method_4_code, 1, (some .boolean), 9, 6, 146), (⟨"MarkBench", "choice", "(I)I"⟩, prog_1_method_12_code, 2, (some .int), 1, 7, 166), (⟨"MarkBench", "ways", "(I)J"⟩, prog_1_method_13_code, 2, (some .long), 1, 7, 166), (⟨"MarkBench", "isGap", "(I)Z"⟩, prog_1_method_21_code, 1, (some .boolean), 1, 0, 0), (⟨"MarkBench$Sheet", "waysWithin", "(I)J"⟩, prog_9_method_6_code, 2, (some .long), 9, 5, 128), (⟨"MarkBench$Tally", "count", "(I)V"⟩, prog_10_method_2_code, 4, none, 10, 4, 105), (⟨"MarkBench$Tally", "clear", "([JI)V"⟩, prog_10_method_4_code, 5, none, 10, 2, 47), (⟨"MarkBench$Tally", "rowOf", "(III)I"⟩, prog_10_method_3_code, 4, (some .int), 10, 0, 0), (⟨"java/util/Arrays", "fill", "([JIIJ)V"⟩, prog_21_method_102_code, 6, none, 14, 1, 22), (⟨"MarkBench$Tally", "begin", "(I)V"⟩, prog_10_method_5_code, 6, none, 10, 2, 45), (⟨"MarkBench$Tally", "stepTo", "(I)V"⟩, prog_10_method_6_code, 7, none, 10, 3, 79), (⟨"MarkBench$Tally", "leastLoss", "(I)I"⟩, prog_10_method_7_code, 3, (some .int), 10, 0, 0), (⟨"MarkBench$Tally", "spread", "(IIIII)V"⟩, prog_10_method_8_code, 15, none, 10, 2, 45), (⟨"MarkBench$Tally", "sum", "()V"⟩, prog_10_method_9_code, 6, none, 10, 1, 23), (⟨"MarkBench", "sure", "(II)I"⟩, prog_1_method_14_code, 3, (some .int), 1, 7, 166), (⟨"MarkBench$Sheet", "isSure", "(II)Z"⟩, prog_9_method_7_code, 3, (some .boolean), 9, 4, 98), (⟨"MarkBench$Sheet", "isSureBy", "([IIII)Z"⟩, prog_9_method_10_code, 8, (some .boolean), 9, 3, 71), (⟨"MarkBench$Sheet", "nearFrom", "([IIII)I"⟩, prog_9_method_9_code, 8, (some .int), 9, 0, 0), (⟨"MarkBench$Choices", "areSpelledAlike", "(II)Z"⟩, prog_4_method_11_code, 3, (some .boolean), 4, 2, 49)]
def m_T3 : List a_M := [(⟨"MarkBench", "text", "(II)I"⟩, prog_1_method_15_code, 4, (some .int), 1, 7, 166), (⟨"MarkBench$Line", "wordAt", "(I)I"⟩, prog_8_method_5_code, 3, (some .int), 8, 0, 0), (⟨"MarkBench$Sheet", "firstNear", "(II)I"⟩, prog_9_method_8_code, 3, (some .int), 9, 1, 27), (⟨"MarkBench", "settle", "(II)I"⟩, prog_1_method_16_code, 6, (some .int), 1, 8, 190), (⟨"MarkBench$Hands", "add", "(II)I"⟩, prog_6_method_4_code, 3, (some .int), 6, 0, 0), (⟨"MarkBench", "back", "(I)Z"⟩, prog_1_method_17_code, 2, (some .boolean), 1, 8, 190), (⟨"MarkBench$Hands", "stands", "(I)Z"⟩, prog_6_method_5_code, 2, (some .boolean), 6, 0, 0), (⟨"MarkBench", "ask", "(I)I"⟩, prog_1_method_18_code, 2, (some .int), 1, 7, 175), (⟨"MarkBench$Sheet", "askedFirst", "(I)I"⟩, prog_9_method_11_code, 6, (some .int), 9, 6, 150), (⟨"MarkBench$Sheet", "sureIfRead", "(II)I"⟩, prog_9_method_12_code, 6, (some .int), 9, 5, 125), (⟨"MarkBench", "entry", "(II)I"⟩, prog_1_method_19_code, 3, (some .int), 1, 0, 0), (⟨"MarkBench", "about", "(I)I"⟩, prog_1_method_20_code, 2, (some .int), 1, 0, 0), (⟨"MarkBenchModel", "<init>", "()V"⟩, prog_14_method_11_code, 2, none, 13, 1, 20), (⟨"MarkBenchModel", "book", "()I"⟩, prog_14_method_16_code, 2, (some .int), 13, 6, 136), (⟨"MarkBenchModel", "takeTape", "()V"⟩, prog_14_method_17_code, 2, none, 13, 0, 0), (⟨"MarkBenchModel", "next", "()V"⟩, prog_14_method_8_code, 3, none, 13, 2, 40), (⟨"MarkBenchModel", "sign", "(I)I"⟩, prog_14_method_1_code, 2, (some .int), 13, 0, 0), (⟨"MarkBenchModel", "isLetter", "(I)Z"⟩, prog_14_method_3_code, 1, (some .boolean), 13, 1, 20), (⟨"MarkBenchModel", "isMarked", "(I)Z"⟩, prog_14_method_2_code, 1, (some .boolean), 13, 0, 0), (⟨"MarkBenchModel", "isDigit", "(I)Z"⟩, prog_14_method_5_code, 1, (some .boolean), 13, 0, 0), (⟨"MarkBenchModel", "isGood", "()Z"⟩, prog_14_method_7_code, 1, (some .boolean), 13, 0, 0), (⟨"MarkBenchModel", "readLine", "()V"⟩, prog_14_method_18_code, 7, none, 13, 5, 110), (⟨"MarkBenchModel", "isWord", "(J)Z"⟩, prog_14_method_9_code, 3, (some .boolean), 13, 0, 0), (⟨"MarkBenchModel", "wrong", "()V"⟩, prog_14_method_10_code, 1, none, 13, 1, 22), (⟨"MarkBenchModel", "fails", "(II)V"⟩, prog_14_method_6_code, 3, none, 13, 0, 0), (⟨"MarkBenchModel", "readWord", "()V"⟩, prog_14_method_19_code, 4, none, 13, 4, 86), (⟨"MarkBenchModel", "form", "()V"⟩, prog_14_method_14_code, 1, none, 13, 2, 42), (⟨"MarkBenchModel", "take", "([BI)I"⟩, prog_14_method_12_code, 5, (some .int), 13, 3, 62), (⟨"MarkBenchModel", "numeral", "(I)I"⟩, prog_14_method_13_code, 3, (some .int), 13, 3, 62), (⟨"MarkBenchModel", "areAlike", "([BI[BIIZ)Z"⟩, prog_14_method_15_code, 7, (some .boolean), 13, 2, 40), (⟨"MarkBenchModel", "bare", "(I)I"⟩, prog_14_method_4_code, 1, (some .int), 13, 1, 20), (⟨"MarkBenchModel", "readEnd", "()V"⟩, prog_14_method_20_code, 4, none, 13, 4, 86), (⟨"MarkBenchModel", "readName", "()V"⟩, prog_14_method_21_code, 4, none, 13, 4, 86), (⟨"MarkBenchModel", "readPair", "(Z)V"⟩, prog_14_method_22_code, 7, none, 13, 4, 84), (⟨"MarkBenchModel", "readBare", "()V"⟩, prog_14_method_23_code, 1, none, 13, 4, 84), (⟨"MarkBenchModel", "fault", "(I)I"⟩, prog_14_method_24_code, 2, (some .int), 13, 0, 0), (⟨"MarkBenchModel", "line", "(I)I"⟩, prog_14_method_26_code, 4, (some .int), 13, 3, 65), (⟨"MarkBenchModel", "readWords", "()I"⟩, prog_14_method_25_code, 6, (some .int), 13, 2, 40), (⟨"MarkBenchModel", "metre", "(I)Z"⟩, prog_14_method_27_code, 2, (some .boolean), 13, 0, 0), (⟨"MarkBenchModel", "readings", "(I)I"⟩, prog_14_method_53_code, 2, (some .int), 13, 7, 159)]
def m_T4 : List a_M := [(⟨"MarkBenchModel", "isPlace", "(I)Z"⟩, prog_14_method_51_code, 2, (some .boolean), 13, 0, 0), (⟨"MarkBenchModel", "know", "()V"⟩, prog_14_method_44_code, 2, none, 13, 6, 138), (⟨"MarkBenchModel", "readingsOf", "(I)V"⟩, prog_14_method_36_code, 5, none, 13, 5, 114), (⟨"MarkBenchModel", "handOf", "(I)I"⟩, prog_14_method_74_code, 3, (some .int), 13, 0, 0), (⟨"MarkBenchModel", "addWord", "(II)V"⟩, prog_14_method_33_code, 5, none, 13, 3, 64), (⟨"MarkBenchModel", "costOf", "(I)I"⟩, prog_14_method_32_code, 3, (some .int), 13, 0, 0), (⟨"MarkBenchModel", "add", "(IIII)I"⟩, prog_14_method_30_code, 7, (some .int), 13, 0, 0), (⟨"MarkBenchModel", "countMarks", "(II)V"⟩, prog_14_method_31_code, 5, none, 13, 2, 40), (⟨"MarkBenchModel", "isVowel", "(I)Z"⟩, prog_14_method_29_code, 1, (some .boolean), 13, 0, 0), (⟨"MarkBenchModel", "isName", "(I)Z"⟩, prog_14_method_35_code, 5, (some .boolean), 13, 2, 40), (⟨"MarkBenchModel", "letterAt", "(II)I"⟩, prog_14_method_28_code, 3, (some .int), 13, 0, 0), (⟨"MarkBenchModel", "fits", "([BIIII)Z"⟩, prog_14_method_34_code, 9, (some .boolean), 13, 2, 40), (⟨"MarkBenchModel", "addEnd", "(II)V"⟩, prog_14_method_37_code, 6, none, 13, 4, 89), (⟨"MarkBenchModel", "addNew", "(II)V"⟩, prog_14_method_38_code, 4, none, 13, 3, 66), (⟨"MarkBenchModel", "vowels", "()I"⟩, prog_14_method_41_code, 4, (some .int), 13, 2, 40), (⟨"MarkBenchModel", "reckon", "()V"⟩, prog_14_method_45_code, 3, none, 13, 3, 75), (⟨"MarkBenchModel", "counts", "(II)Z"⟩, prog_14_method_43_code, 3, (some .boolean), 13, 0, 0), (⟨"MarkBenchModel", "goAhead", "(II)V"⟩, prog_14_method_48_code, 6, none, 13, 2, 50), (⟨"MarkBenchModel", "comes", "(III)I"⟩, prog_14_method_46_code, 8, (some .int), 13, 1, 23), (⟨"MarkBenchModel", "marksOf", "(I)I"⟩, prog_14_method_42_code, 2, (some .int), 13, 0, 0), (⟨"MarkBenchModel", "spot", "(III)I"⟩, prog_14_method_39_code, 3, (some .int), 13, 0, 0), (⟨"MarkBenchModel", "pair", "(II)I"⟩, prog_14_method_40_code, 4, (some .int), 13, 0, 0), (⟨"MarkBenchModel", "goBehind", "(II)V"⟩, prog_14_method_49_code, 7, none, 13, 2, 49), (⟨"MarkBenchModel", "goesOn", "(III)I"⟩, prog_14_method_47_code, 7, (some .int), 13, 1, 23), (⟨"MarkBenchModel", "reading", "(III)I"⟩, prog_14_method_55_code, 5, (some .int), 13, 8, 181), (⟨"MarkBenchModel", "isReading", "(II)Z"⟩, prog_14_method_52_code, 3, (some .boolean), 13, 7, 159), (⟨"MarkBenchModel", "weight", "(II)I"⟩, prog_14_method_54_code, 5, (some .int), 13, 2, 40), (⟨"MarkBenchModel", "through", "(II)I"⟩, prog_14_method_50_code, 6, (some .int), 13, 2, 50), (⟨"MarkBenchModel", "letter", "(III)I"⟩, prog_14_method_56_code, 4, (some .int), 13, 8, 181), (⟨"MarkBenchModel", "best", "()I"⟩, prog_14_method_57_code, 1, (some .int), 13, 7, 159), (⟨"MarkBenchModel", "choice", "(I)I"⟩, prog_14_method_60_code, 2, (some .int), 13, 8, 179), (⟨"MarkBenchModel", "choose", "()V"⟩, prog_14_method_58_code, 5, none, 13, 3, 75), (⟨"MarkBenchModel", "isBestWith", "(IIII)Z"⟩, prog_14_method_59_code, 7, (some .boolean), 13, 2, 49), (⟨"MarkBenchModel", "ways", "(I)J"⟩, prog_14_method_67_code, 6, (some .long), 13, 8, 179), (⟨"MarkBenchModel", "clear", "(I)V"⟩, prog_14_method_63_code, 3, none, 13, 1, 23), (⟨"MarkBenchModel", "cell", "(IIII)I"⟩, prog_14_method_61_code, 4, (some .int), 13, 0, 0), (⟨"MarkBenchModel", "begin", "(II)V"⟩, prog_14_method_65_code, 6, none, 13, 2, 49), (⟨"MarkBenchModel", "rest", "(III)I"⟩, prog_14_method_62_code, 7, (some .int), 13, 1, 23), (⟨"MarkBenchModel", "hasAny", "(IIII)Z"⟩, prog_14_method_66_code, 6, (some .boolean), 13, 1, 23), (⟨"MarkBenchModel", "spread", "(IIIII)V"⟩, prog_14_method_64_code, 13, none, 13, 2, 49)]
def m_T5 : List a_M := [(⟨"MarkBenchModel", "sure", "(II)I"⟩, prog_14_method_71_code, 3, (some .int), 13, 8, 179), (⟨"MarkBenchModel", "isGap", "(I)Z"⟩, prog_14_method_68_code, 1, (some .boolean), 13, 0, 0), (⟨"MarkBenchModel", "isSure", "(II)Z"⟩, prog_14_method_70_code, 5, (some .boolean), 13, 4, 98), (⟨"MarkBenchModel", "firstNear", "(II)I"⟩, prog_14_method_69_code, 4, (some .int), 13, 3, 75), (⟨"MarkBenchModel", "text", "(II)I"⟩, prog_14_method_72_code, 4, (some .int), 13, 8, 179), (⟨"MarkBenchModel", "ask", "(I)I"⟩, prog_14_method_73_code, 8, (some .int), 13, 8, 179), (⟨"MarkBenchModel", "settle", "(II)I"⟩, prog_14_method_75_code, 4, (some .int), 13, 8, 181), (⟨"MarkBenchModel", "back", "(I)Z"⟩, prog_14_method_76_code, 2, (some .boolean), 13, 0, 0), (⟨"MarkBenchModel", "entry", "(II)I"⟩, prog_14_method_77_code, 4, (some .int), 13, 0, 0), (⟨"MarkBenchModel", "about", "(I)I"⟩, prog_14_method_78_code, 2, (some .int), 13, 0, 0), (⟨"MarkBenchModel", "feed", "(IIIII)I"⟩, prog_14_method_79_code, 8, (some .int), 13, 0, 0), (⟨"MarkBenchModel", "end", "(I)I"⟩, prog_14_method_80_code, 2, (some .int), 13, 0, 0), (⟨"java/lang/String", "length", "()I"⟩, prog_17_method_54_code, 1, (some .int), 15, 1, 20), (⟨"java/lang/String", "coder", "()B"⟩, prog_17_method_152_code, 1, (some .byte), 15, 0, 0), (⟨"java/lang/String", "isLatin1", "()Z"⟩, prog_17_method_154_code, 1, (some .boolean), 15, 0, 0), (⟨"java/lang/String", "charAt", "(I)C"⟩, prog_17_method_56_code, 2, (some .char), 15, 3, 64), (⟨"java/lang/String", "checkIndex", "(II)V"⟩, prog_17_method_155_code, 2, none, 15, 1, 22), (⟨"java/lang/StringLatin1", "charAt", "([BI)C"⟩, prog_18_method_2_code, 2, (some .char), 16, 2, 43), (⟨"jdk/internal/util/Preconditions", "checkIndex", "(IILjava/util/function/BiFunction;)I"⟩, prog_22_method_11_code, 3, (some .int), 17, 0, 0), (⟨"java/lang/String", "indexOf", "(I)I"⟩, prog_17_method_79_code, 2, (some .int), 15, 3, 70), (⟨"java/lang/String", "indexOf", "(II)I"⟩, prog_17_method_80_code, 3, (some .int), 15, 2, 48), (⟨"java/lang/StringLatin1", "indexOf", "([BIII)I"⟩, prog_18_method_22_code, 4, (some .int), 16, 1, 25), (⟨"java/lang/StringLatin1", "canEncode", "(I)Z"⟩, prog_18_method_4_code, 1, (some .boolean), 16, 0, 0), (⟨"java/lang/StringLatin1", "indexOfChar", "([BIII)I"⟩, prog_18_method_23_code, 6, (some .int), 16, 0, 0)]
def m_T : List a_M := m_T0 ++ (m_T1 ++ (m_T2 ++ (m_T3 ++ (m_T4 ++ (m_T5)))))
def m_d : a_M := (⟨"", "", ""⟩, ⟨#[]⟩, 0, none, 0, 0, 0)
def m_y (i : Nat) : MethodName := (m_T.getD i m_d).1
def m_b (i : Nat) : ByteArray := (m_T.getD i m_d).2.1
def m_l (i : Nat) : Nat := (m_T.getD i m_d).2.2.1
def m_r (i : Nat) : Option FieldType := (m_T.getD i m_d).2.2.2.1
def m_o (i : Nat) : Nat := (m_T.getD i m_d).2.2.2.2.1
def m_f (i : Nat) : Nat := (m_T.getD i m_d).2.2.2.2.2.1
def m_w (i : Nat) : Nat := (m_T.getD i m_d).2.2.2.2.2.2
abbrev AR : Type := Nat × Nat × Nat
abbrev a_Tb : Type := List ((Nat × Nat) × AR)
def f_T0 : a_Tb := [((1, 9), (10, 0, 728)), ((1, 18), (10, 1, 729)), ((1, 25), (10, 2, 730)), ((1, 32), (10, 3, 731)), ((1, 41), (10, 4, 732)), ((1, 45), (10, 5, 733)), ((1, 52), (10, 6, 734)), ((1, 59), (10, 7, 735)), ((1, 63), (10, 8, 736)), ((1, 66), (10, 9, 737)), ((1, 69), (10, 10, 738)), ((1, 72), (10, 11, 739)), ((1, 86), (1, 0, 278)), ((1, 89), (1, 1, 280)), ((1, 90), (1, 2, 282)), ((1, 95), (0, 0, 170)), ((1, 99), (3, 2, 157)), ((1, 111), (5, 5, 527)), ((1, 113), (0, 10, 202)), ((1, 124), (2, 0, 344)), ((1, 131), (2, 3, 354)), ((1, 134), (2, 4, 357)), ((1, 137), (2, 1, 348)), ((1, 140), (2, 5, 361)), ((1, 143), (2, 2, 350)), ((1, 146), (3, 1, 153)), ((1, 149), (2, 6, 363)), ((1, 164), (6, 7, 476)), ((1, 167), (6, 4, 472)), ((1, 183), (5, 4, 525)), ((1, 189), (5, 0, 516)), ((1, 195), (5, 1, 519)), ((1, 198), (4, 3, 323)), ((1, 199), (0, 5, 187)), ((1, 208), (4, 2, 321)), ((1, 212), (4, 1, 319)), ((1, 216), (0, 1, 175)), ((1, 217), (0, 2, 178)), ((1, 218), (0, 3, 181)), ((1, 221), (0, 4, 184)), ((1, 224), (0, 6, 191)), ((1, 227), (0, 9, 200)), ((1, 230), (0, 12, 207)), ((1, 233), (5, 6, 530)), ((1, 236), (2, 8, 369)), ((2, 14), (0, 0, 168)), ((2, 20), (0, 1, 172)), ((2, 24), (0, 2, 176)), ((2, 27), (0, 3, 179)), ((2, 30), (0, 4, 182)), ((2, 33), (0, 5, 185)), ((2, 36), (0, 6, 188)), ((2, 39), (0, 7, 192)), ((2, 42), (0, 8, 195)), ((2, 45), (0, 9, 198)), ((2, 48), (0, 10, 201)), ((2, 51), (0, 11, 203)), ((2, 55), (0, 12, 205)), ((2, 59), (0, 13, 208)), ((2, 63), (0, 14, 210))]
def f_T1 : a_Tb := [((2, 66), (0, 15, 213)), ((2, 69), (3, 2, 155)), ((3, 9), (1, 0, 277)), ((3, 15), (1, 1, 279)), ((3, 21), (1, 2, 281)), ((3, 28), (1, 4, 284)), ((3, 32), (1, 5, 285)), ((3, 35), (1, 6, 286)), ((3, 38), (1, 7, 287)), ((3, 41), (1, 8, 288)), ((3, 44), (1, 9, 289)), ((3, 47), (1, 3, 283)), ((3, 58), (8, 4, 265)), ((3, 103), (0, 0, 169)), ((3, 107), (3, 2, 156)), ((3, 125), (0, 1, 173)), ((3, 129), (0, 2, 177)), ((3, 132), (0, 5, 186)), ((3, 142), (0, 3, 180)), ((3, 145), (0, 4, 183)), ((3, 154), (0, 6, 189)), ((3, 163), (0, 7, 193)), ((3, 166), (0, 8, 196)), ((3, 172), (0, 9, 199)), ((3, 179), (0, 12, 206)), ((3, 182), (0, 11, 204)), ((3, 191), (0, 13, 209)), ((3, 195), (0, 14, 212)), ((3, 198), (0, 15, 215)), ((3, 210), (8, 0, 257)), ((3, 213), (8, 1, 259)), ((3, 216), (8, 2, 261)), ((3, 219), (8, 3, 263)), ((4, 9), (2, 0, 341)), ((4, 15), (2, 1, 346)), ((4, 23), (2, 2, 349)), ((4, 27), (2, 3, 351)), ((4, 30), (2, 4, 355)), ((4, 33), (2, 5, 359)), ((4, 36), (2, 6, 362)), ((4, 39), (2, 7, 364)), ((4, 43), (2, 8, 365)), ((4, 51), (5, 1, 518)), ((4, 56), (5, 2, 521)), ((4, 63), (5, 3, 523)), ((4, 67), (5, 0, 515)), ((4, 90), (0, 0, 171)), ((4, 92), (3, 2, 158)), ((4, 99), (5, 6, 529)), ((4, 106), (3, 0, 150)), ((4, 119), (0, 6, 190)), ((4, 122), (3, 1, 152)), ((4, 132), (0, 7, 194)), ((4, 135), (0, 8, 197)), ((4, 138), (0, 14, 211)), ((4, 141), (0, 15, 214)), ((4, 147), (0, 1, 174)), ((5, 9), (3, 2, 154)), ((5, 15), (3, 0, 149)), ((5, 19), (3, 1, 151))]
def f_T2 : a_Tb := [((6, 9), (4, 0, 317)), ((6, 15), (4, 1, 318)), ((6, 18), (4, 2, 320)), ((6, 22), (4, 3, 322)), ((8, 9), (5, 0, 514)), ((8, 15), (5, 1, 517)), ((8, 19), (5, 2, 520)), ((8, 22), (5, 3, 522)), ((8, 26), (5, 4, 524)), ((8, 30), (5, 5, 526)), ((8, 33), (5, 6, 528)), ((9, 9), (6, 3, 470)), ((9, 15), (6, 4, 471)), ((9, 18), (6, 5, 473)), ((9, 21), (6, 6, 474)), ((9, 25), (6, 7, 475)), ((9, 29), (6, 8, 477)), ((9, 32), (6, 9, 478)), ((9, 35), (6, 10, 479)), ((9, 39), (6, 11, 480)), ((9, 42), (6, 0, 467)), ((9, 51), (6, 1, 468)), ((9, 60), (6, 2, 469)), ((9, 64), (2, 8, 368)), ((9, 89), (7, 2, 452)), ((9, 101), (2, 0, 345)), ((10, 13), (7, 2, 451)), ((10, 17), (7, 3, 453)), ((10, 20), (7, 4, 454)), ((10, 23), (7, 0, 449)), ((10, 27), (9, 0, 401)), ((10, 31), (7, 1, 450)), ((10, 41), (2, 8, 367)), ((10, 53), (9, 1, 404)), ((10, 65), (9, 2, 406)), ((10, 74), (2, 0, 343)), ((10, 77), (2, 3, 353)), ((10, 80), (9, 3, 408)), ((10, 83), (2, 4, 356)), ((10, 97), (9, 4, 410)), ((11, 9), (8, 0, 256)), ((11, 15), (8, 1, 258)), ((11, 18), (8, 2, 260)), ((11, 21), (8, 3, 262)), ((11, 24), (8, 4, 264)), ((12, 9), (9, 1, 403)), ((12, 15), (9, 2, 405)), ((12, 18), (9, 3, 407)), ((12, 21), (9, 4, 409)), ((12, 24), (9, 5, 411)), ((12, 27), (9, 6, 412)), ((12, 30), (9, 7, 413)), ((12, 33), (9, 8, 414)), ((12, 36), (9, 9, 415)), ((12, 40), (9, 10, 416)), ((12, 44), (9, 11, 417)), ((12, 47), (9, 0, 402)), ((12, 51), (2, 8, 366)), ((12, 56), (2, 1, 347)), ((12, 59), (2, 0, 342))]
def f_T3 : a_Tb := [((12, 62), (2, 5, 360)), ((12, 63), (2, 3, 352)), ((12, 117), (2, 4, 358)), ((13, 1), (11, 3, 1209)), ((13, 7), (11, 1, 1207)), ((13, 15), (11, 4, 1210)), ((13, 18), (11, 5, 1211)), ((13, 21), (11, 7, 1213)), ((13, 24), (11, 6, 1212)), ((13, 31), (11, 8, 1214)), ((13, 37), (11, 10, 1216)), ((13, 44), (11, 9, 1215)), ((13, 57), (11, 0, 1206)), ((13, 60), (11, 11, 1217)), ((13, 63), (11, 12, 1218)), ((13, 66), (11, 13, 1219)), ((13, 69), (11, 14, 1220)), ((13, 72), (11, 15, 1221)), ((13, 76), (11, 16, 1222)), ((13, 79), (11, 17, 1223)), ((13, 82), (11, 18, 1224)), ((13, 85), (11, 19, 1225)), ((13, 88), (11, 20, 1226)), ((13, 91), (11, 21, 1227)), ((13, 94), (11, 22, 1228)), ((13, 97), (11, 23, 1229)), ((13, 100), (11, 24, 1230)), ((13, 103), (11, 25, 1231)), ((13, 106), (11, 26, 1232)), ((13, 109), (11, 27, 1233)), ((13, 112), (11, 28, 1234)), ((13, 115), (11, 29, 1235)), ((13, 118), (11, 30, 1236)), ((13, 121), (11, 31, 1237)), ((13, 125), (11, 34, 1240)), ((13, 128), (11, 35, 1241)), ((13, 131), (11, 36, 1242)), ((13, 134), (11, 37, 1243)), ((13, 137), (11, 42, 1248)), ((13, 140), (11, 43, 1249)), ((13, 143), (11, 44, 1250)), ((13, 146), (11, 45, 1251)), ((13, 149), (11, 46, 1252)), ((13, 152), (11, 47, 1253)), ((13, 155), (11, 48, 1254)), ((13, 158), (11, 49, 1255)), ((13, 161), (11, 50, 1256)), ((13, 164), (11, 51, 1257)), ((13, 167), (11, 52, 1258)), ((13, 170), (11, 54, 1260)), ((13, 173), (11, 55, 1261)), ((13, 176), (11, 58, 1264)), ((13, 179), (11, 60, 1266)), ((13, 183), (11, 61, 1267)), ((13, 187), (11, 62, 1268)), ((13, 190), (11, 63, 1269)), ((13, 193), (11, 64, 1270)), ((13, 196), (11, 65, 1271)), ((13, 215), (11, 32, 1238)), ((13, 218), (11, 33, 1239))]
def f_T4 : a_Tb := [((13, 224), (11, 38, 1244)), ((13, 227), (11, 39, 1245)), ((13, 230), (11, 41, 1247)), ((13, 233), (11, 66, 1272)), ((13, 236), (11, 53, 1259)), ((13, 240), (11, 2, 1208)), ((13, 298), (11, 40, 1246)), ((13, 338), (11, 59, 1265)), ((13, 348), (11, 56, 1262)), ((13, 364), (11, 57, 1263))]
def f_T : a_Tb := f_T0 ++ (f_T1 ++ (f_T2 ++ (f_T3 ++ (f_T4))))
def k_T0 : a_Tb := [((1, 3), (4, 0, 0)), ((1, 15), (2, 2, 1)), ((1, 24), (3, 6, 0)), ((1, 31), (3, 7, 0)), ((1, 38), (2, 8, 1)), ((1, 51), (3, 3, 0)), ((1, 58), (3, 11, 0)), ((1, 75), (0, 12, 0)), ((1, 78), (0, 36, 1)), ((1, 82), (0, 39, 1)), ((1, 91), (0, 66, 0)), ((1, 94), (0, 67, 0)), ((1, 105), (0, 69, 3)), ((1, 108), (0, 71, 0)), ((1, 117), (0, 34, 2)), ((1, 121), (0, 75, 1)), ((1, 127), (0, 77, 2)), ((1, 152), (0, 78, 1)), ((1, 156), (0, 32, 2)), ((1, 160), (0, 101, 0)), ((1, 170), (1, 104, 1)), ((1, 175), (0, 105, 1)), ((1, 179), (0, 116, 2)), ((1, 186), (0, 121, 1)), ((1, 192), (0, 122, 2)), ((1, 202), (0, 124, 2)), ((1, 205), (0, 126, 1)), ((1, 213), (0, 128, 1)), ((1, 237), (0, 13, 1)), ((1, 240), (0, 14, 4)), ((2, 3), (4, 0, 0)), ((2, 11), (2, 4, 1)), ((2, 72), (1, 41, 2)), ((2, 78), (0, 29, 4)), ((2, 82), (0, 21, 4)), ((2, 85), (6, 0, 2)), ((3, 3), (4, 0, 0)), ((3, 20), (3, 3, 0)), ((3, 27), (3, 5, 0)), ((3, 51), (0, 40, 0)), ((3, 54), (0, 42, 2)), ((3, 61), (0, 48, 0)), ((3, 64), (0, 49, 0)), ((3, 70), (0, 50, 1)), ((3, 74), (0, 51, 0)), ((3, 79), (0, 60, 0)), ((3, 84), (0, 62, 0)), ((3, 89), (0, 63, 1)), ((3, 97), (0, 65, 0)), ((3, 100), (0, 52, 0)), ((3, 110), (0, 53, 0)), ((3, 113), (0, 55, 1)), ((3, 117), (0, 57, 4)), ((3, 121), (0, 56, 2)), ((3, 135), (0, 58, 1)), ((3, 138), (0, 59, 3)), ((3, 151), (0, 54, 1)), ((3, 157), (1, 22, 5)), ((3, 169), (0, 61, 0)), ((3, 175), (0, 20, 3))]
def k_T1 : a_Tb := [((3, 187), (0, 64, 2)), ((3, 201), (0, 212, 0)), ((3, 206), (0, 215, 1)), ((4, 3), (4, 0, 0)), ((4, 20), (2, 4, 1)), ((4, 47), (0, 75, 1)), ((4, 59), (0, 15, 3)), ((4, 70), (0, 20, 3)), ((4, 76), (0, 18, 6)), ((4, 80), (0, 23, 3)), ((4, 84), (0, 27, 3)), ((4, 87), (0, 31, 1)), ((4, 95), (0, 21, 4)), ((4, 102), (0, 24, 2)), ((4, 109), (0, 16, 1)), ((4, 113), (1, 25, 5)), ((4, 123), (7, 0, 5)), ((4, 129), (0, 28, 4)), ((4, 144), (0, 29, 4)), ((4, 148), (0, 17, 1)), ((4, 151), (0, 19, 4)), ((4, 155), (0, 32, 2)), ((4, 159), (1, 33, 1)), ((4, 163), (1, 26, 1)), ((5, 3), (4, 0, 0)), ((5, 23), (7, 0, 5)), ((5, 29), (0, 19, 4)), ((5, 33), (0, 16, 1)), ((5, 37), (1, 30, 5)), ((5, 43), (1, 22, 5)), ((6, 3), (4, 0, 0)), ((7, 11), (0, 219, 1)), ((7, 17), (1, 26, 1)), ((8, 3), (4, 0, 0)), ((8, 36), (0, 66, 0)), ((8, 39), (1, 43, 1)), ((8, 45), (0, 70, 2)), ((8, 49), (7, 0, 5)), ((9, 3), (4, 0, 0)), ((9, 48), (2, 9, 1)), ((9, 57), (2, 10, 1)), ((9, 69), (0, 80, 2)), ((9, 73), (0, 84, 4)), ((9, 78), (0, 97, 2)), ((9, 82), (0, 79, 0)), ((9, 85), (0, 106, 1)), ((9, 93), (0, 117, 4)), ((9, 97), (0, 118, 4)), ((9, 104), (0, 119, 2)), ((9, 108), (0, 116, 2)), ((9, 111), (0, 129, 2)), ((10, 7), (4, 0, 0)), ((10, 33), (0, 107, 2)), ((10, 37), (0, 110, 1)), ((10, 47), (0, 111, 1)), ((10, 50), (0, 114, 0)), ((10, 57), (0, 88, 2)), ((10, 61), (0, 108, 3)), ((10, 68), (1, 109, 4)), ((10, 86), (0, 98, 3))]
def k_T2 : a_Tb := [((10, 89), (0, 112, 1)), ((10, 93), (0, 113, 5)), ((11, 3), (4, 0, 0)), ((11, 28), (1, 43, 1)), ((11, 34), (0, 44, 3)), ((11, 38), (1, 46, 1)), ((11, 41), (0, 47, 3)), ((11, 44), (0, 45, 4)), ((11, 48), (5, 0, 2)), ((12, 3), (4, 0, 0)), ((12, 66), (0, 81, 1)), ((12, 70), (0, 82, 1)), ((12, 74), (0, 83, 1)), ((12, 77), (6, 0, 2)), ((12, 83), (5, 0, 2)), ((12, 87), (1, 85, 4)), ((12, 93), (0, 87, 0)), ((12, 96), (0, 93, 2)), ((12, 100), (0, 90, 2)), ((12, 103), (0, 88, 2)), ((12, 107), (0, 89, 2)), ((12, 111), (0, 91, 1)), ((12, 114), (0, 92, 1)), ((12, 120), (0, 94, 1)), ((12, 123), (1, 41, 2)), ((12, 125), (0, 96, 2)), ((12, 128), (0, 95, 3)), ((12, 132), (0, 98, 3)), ((0, 9), (2, 1, 0)), ((0, 12), (2, 132, 0)), ((0, 13), (0, 35, 5)), ((0, 17), (0, 210, 5)), ((0, 18), (0, 37, 1)), ((0, 22), (0, 211, 1)), ((0, 23), (0, 38, 0)), ((0, 27), (0, 133, 0)), ((0, 28), (0, 68, 1)), ((0, 31), (0, 156, 1)), ((0, 32), (0, 72, 1)), ((0, 35), (0, 155, 1)), ((0, 36), (0, 73, 1)), ((0, 40), (0, 158, 1)), ((0, 41), (0, 74, 1)), ((0, 44), (0, 159, 1)), ((0, 45), (0, 76, 3)), ((0, 49), (0, 184, 3)), ((0, 50), (0, 99, 3)), ((0, 53), (0, 188, 3)), ((0, 54), (0, 100, 0)), ((0, 57), (0, 189, 0)), ((0, 58), (0, 102, 1)), ((0, 61), (0, 190, 1)), ((0, 62), (0, 103, 1)), ((0, 66), (0, 193, 1)), ((0, 67), (0, 115, 2)), ((0, 71), (0, 200, 2)), ((0, 72), (0, 120, 2)), ((0, 75), (0, 204, 2)), ((0, 76), (0, 123, 2)), ((0, 79), (0, 206, 2))]
def k_T3 : a_Tb := [((0, 80), (0, 125, 1)), ((0, 83), (0, 207, 1)), ((0, 84), (0, 127, 1)), ((0, 87), (0, 205, 1)), ((0, 88), (0, 130, 2)), ((0, 91), (0, 208, 2)), ((0, 92), (0, 131, 1)), ((0, 95), (0, 209, 1)), ((13, 11), (1, 138, 1)), ((13, 27), (0, 136, 1)), ((13, 34), (1, 137, 1)), ((13, 41), (1, 139, 1)), ((13, 47), (0, 144, 2)), ((13, 51), (4, 0, 0)), ((13, 199), (0, 135, 0)), ((13, 202), (0, 140, 0)), ((13, 206), (0, 143, 0)), ((13, 209), (1, 150, 1)), ((13, 212), (0, 134, 0)), ((13, 221), (0, 141, 0)), ((13, 245), (0, 142, 1)), ((13, 259), (0, 145, 0)), ((13, 262), (0, 151, 0)), ((13, 265), (0, 152, 0)), ((13, 268), (0, 153, 1)), ((13, 272), (0, 154, 0)), ((13, 275), (0, 146, 0)), ((13, 278), (0, 147, 2)), ((13, 282), (0, 148, 1)), ((13, 285), (1, 149, 6)), ((13, 294), (0, 157, 0)), ((13, 301), (1, 168, 1)), ((13, 304), (0, 165, 1)), ((13, 307), (0, 166, 4)), ((13, 311), (0, 167, 2)), ((13, 314), (0, 170, 2)), ((13, 318), (0, 163, 1)), ((13, 321), (0, 164, 2)), ((13, 324), (0, 169, 1)), ((13, 327), (0, 171, 5)), ((13, 331), (0, 172, 2)), ((13, 334), (0, 173, 2)), ((13, 341), (0, 162, 1)), ((13, 345), (0, 174, 0)), ((13, 351), (0, 175, 0)), ((13, 354), (0, 176, 2)), ((13, 358), (0, 177, 2)), ((13, 361), (0, 182, 2)), ((13, 367), (1, 180, 3)), ((13, 371), (0, 179, 1)), ((13, 374), (0, 181, 2)), ((13, 377), (0, 178, 3)), ((13, 380), (0, 183, 3)), ((13, 383), (0, 160, 1)), ((13, 386), (0, 161, 0)), ((13, 389), (0, 185, 2)), ((13, 392), (0, 186, 2)), ((13, 395), (0, 187, 2)), ((13, 398), (0, 192, 4)), ((13, 402), (0, 189, 0))]
def k_T4 : a_Tb := [((13, 405), (0, 191, 0)), ((13, 408), (1, 195, 4)), ((13, 412), (0, 197, 3)), ((13, 417), (0, 194, 1)), ((13, 420), (0, 196, 2)), ((13, 423), (0, 198, 4)), ((13, 426), (0, 199, 5)), ((13, 430), (0, 203, 2)), ((13, 433), (1, 201, 1)), ((13, 436), (0, 202, 2)), ((15, 335), (0, 213, 0)), ((15, 492), (0, 214, 0)), ((15, 495), (1, 217, 2)), ((15, 505), (0, 212, 0)), ((15, 633), (0, 220, 2)), ((15, 637), (1, 221, 4)), ((15, 1059), (1, 218, 3)), ((16, 9), (1, 216, 2)), ((16, 38), (5, 0, 2)), ((16, 88), (1, 222, 1)), ((16, 92), (6, 0, 2)), ((16, 95), (1, 223, 4)), ((14, 13), (1, 86, 3))]
def k_T : a_Tb := k_T0 ++ (k_T1 ++ (k_T2 ++ (k_T3 ++ (k_T4))))
def g_T0 : a_Tb := [((15, 9), (0, 0, 1729)), ((15, 15), (1, 0, 1728)), ((15, 38), (2, 0, 651)), ((15, 1053), (3, 0, 692))]
def g_T : a_Tb := g_T0
def n_T0 : a_Tb := [((1, 13), (1, 10, 131)), ((1, 22), (4, 4, 311)), ((1, 29), (2, 9, 333)), ((1, 36), (6, 12, 389)), ((1, 49), (0, 16, 506)), ((1, 56), (5, 7, 508)), ((2, 9), (3, 3, 143)), ((3, 18), (0, 16, 137)), ((3, 25), (8, 5, 250)), ((4, 18), (3, 3, 339)), ((9, 46), (9, 12, 395)), ((9, 55), (7, 5, 443)), ((0, 7), (10, 12, 123)), ((0, 10), (11, 67, 1199))]
def n_T : a_Tb := n_T0
def d_T0 : a_Tb := [((1, 104), (0, 1, 935)), ((3, 148), (0, 1, 883)), ((3, 186), (0, 4, 912)), ((9, 77), (0, 4, 1054)), ((10, 32), (0, 0, 1096)), ((12, 86), (0, 4, 1006)), ((13, 182), (0, 3, 1205)), ((13, 289), (0, 1, 1481)), ((13, 337), (0, 4, 1583)), ((13, 411), (0, 2, 1664)), ((3, 68), (1, 1, 824)), ((3, 77), (1, 4, 891)), ((3, 82), (1, 5, 901)), ((3, 87), (1, 6, 907)), ((3, 93), (1, 7, 917)), ((3, 95), (1, 8, 918)), ((3, 149), (1, 2, 884)), ((3, 150), (1, 3, 885)), ((7, 9), (1, 0, 638))]
def d_T : a_Tb := d_T0
def l_T0 : a_Tb := [((1, 173), (0, 0, 1087)), ((13, 243), (0, 6, 1441)), ((13, 249), (0, 2, 1446)), ((13, 251), (0, 4, 1447)), ((13, 253), (0, 5, 1448)), ((13, 255), (0, 1, 1449)), ((13, 257), (0, 3, 1450)), ((13, 290), (0, 7, 1482)), ((13, 292), (0, 8, 1483)), ((13, 415), (0, 0, 1656))]
def l_T : a_Tb := l_T0
def i_V : List Int32 := [68680, 100000, 136552, 273104, 1000000]
def l_V : List Int64 := [-1, 6447474, 6647396, 1650553445, 1851878757, 1885432178, 2003792484, 495690081125, 504364296556]
def s_V : List (String × Nat × String) := [("MarkBench$Letters", 9, "aeiouAEIOU"), ("MarkBench$BookReader", 68, "word"), ("MarkBench$BookReader", 149, "since"), ("MarkBench$BookReader", 150, "until"), ("MarkBench$BookReader", 77, "end"), ("MarkBench$BookReader", 82, "name"), ("MarkBench$BookReader", 87, "pair"), ("MarkBench$BookReader", 93, "bar"), ("MarkBench$BookReader", 95, "bare")]
end
section
def t_b : List Cond := lw_tbl.filter goodWord
theorem t_in {w : Cond} (k : Nat) (h : lw_tbl[k]? = some w) (hg : goodWord w = true) : w ∈ t_b := List.mem_filter.mpr ⟨List.mem_of_getElem? h, hg⟩
def k_P0 : List AR := [(128, 0, 0), (133, 134, 0), (313, 314, 0), (335, 336, 0), (391, 392, 0), (507, 140, 0), (510, 511, 0), (546, 548, 0), (770, 772, 7), (782, 783, 784), (923, 924, 925), (927, 928, 929), (936, 937, 938), (947, 948, 949), (724, 725, 726), (963, 964, 965), (971, 972, 973), (976, 977, 978), (1067, 632, 633), (1072, 1073, 1074), (1084, 1085, 0), (1088, 1089, 1090), (1134, 1135, 1136), (1154, 1155, 1156), (1158, 1159, 1160), (1166, 1167, 1168), (1174, 1175, 1176), (1182, 1183, 1184), (550, 551, 552), (554, 555, 556), (142, 0, 0), (145, 146, 0), (790, 791, 0), (878, 621, 622), (588, 589, 590), (570, 0, 0), (136, 0, 0), (139, 140, 0), (252, 253, 0), (786, 787, 788), (793, 794, 795), (816, 818, 11), (820, 822, 12), (825, 827, 13), (850, 852, 14), (892, 894, 21), (902, 904, 23), (908, 910, 24), (919, 921, 25), (854, 856, 15), (858, 860, 16), (866, 868, 18), (874, 875, 876), (870, 872, 19), (879, 881, 20), (886, 887, 888), (862, 864, 17), (896, 594, 0), (897, 899, 22), (906, 585, 586)]
def k_P1 : List AR := [(913, 914, 915), (829, 654, 655), (830, 831, 832), (338, 0, 0), (340, 146, 0), (975, 964, 965), (558, 560, 1), (584, 585, 586), (573, 575, 2), (596, 598, 3), (611, 613, 4), (627, 629, 6), (600, 589, 590), (601, 602, 603), (562, 563, 564), (605, 606, 0), (615, 0, 0), (616, 618, 5), (620, 621, 622), (566, 567, 568), (577, 578, 579), (631, 632, 633), (635, 636, 0), (723, 609, 0), (148, 0, 0), (581, 0, 0), (890, 578, 579), (592, 563, 564), (624, 625, 0), (593, 594, 0), (316, 0, 0), (639, 640, 641), (608, 609, 0), (513, 0, 0), (940, 924, 925), (941, 798, 0), (942, 944, 26), (946, 0, 0), (394, 0, 0), (397, 398, 0), (445, 446, 0), (984, 985, 986), (1002, 1003, 1004), (1055, 1056, 1057), (980, 982, 27), (1092, 1093, 1094), (1138, 1140, 47), (1142, 1144, 48), (1146, 1147, 1148), (1186, 1135, 1136), (1187, 1189, 49), (448, 0, 0), (1097, 1099, 40), (1109, 1111, 42), (1114, 1116, 43), (1126, 1128, 46), (1101, 1018, 1019), (1102, 1104, 41), (1106, 1107, 0), (1113, 1060, 1061)]
def k_P2 : List AR := [(1118, 1120, 44), (1122, 1124, 45), (255, 0, 0), (797, 798, 0), (800, 802, 8), (809, 810, 0), (812, 814, 10), (805, 807, 9), (804, 0, 0), (400, 0, 0), (988, 990, 28), (992, 994, 29), (997, 999, 30), (1001, 0, 0), (996, 0, 0), (1007, 1008, 0), (1013, 1015, 31), (1037, 1039, 36), (1025, 1027, 33), (1017, 1018, 1019), (1021, 1023, 32), (1029, 1031, 34), (1033, 1035, 35), (1041, 1043, 37), (1049, 791, 0), (1050, 1052, 39), (1045, 1047, 38), (1059, 1060, 1061), (125, 126, 0), (1201, 1202, 0), (766, 767, 768), (1720, 1721, 1722), (774, 775, 776), (1724, 1725, 1726), (778, 779, 780), (1408, 1409, 1410), (931, 932, 933), (1504, 1505, 1506), (951, 952, 953), (1500, 1501, 1502), (955, 956, 957), (1512, 1513, 1514), (959, 960, 961), (1516, 1517, 1518), (967, 968, 969), (1615, 1616, 1617), (1063, 1064, 1065), (1631, 1632, 1633), (1068, 1069, 1070), (1635, 1636, 1637), (1076, 1077, 1078), (1639, 1640, 1641), (1080, 1081, 1082), (1652, 1653, 1654), (1130, 1131, 1132), (1681, 1682, 1683), (1150, 1151, 1152), (1696, 1697, 1698), (1162, 1163, 1164), (1704, 1705, 1706)]
def k_P3 : List AR := [(1170, 1171, 1172), (1708, 1709, 1710), (1178, 1179, 1180), (1700, 1701, 1702), (1191, 1192, 1193), (1712, 1713, 1714), (1195, 1196, 1197), (1716, 1717, 1718), (1427, 1428, 0), (1420, 1422, 52), (1424, 1425, 0), (1430, 1431, 0), (1455, 1457, 57), (1204, 0, 0), (1416, 1418, 51), (1433, 1435, 53), (1451, 1453, 56), (1478, 1479, 0), (1412, 1414, 50), (1437, 1439, 54), (1442, 1444, 55), (1459, 1461, 58), (1484, 1486, 62), (1488, 1490, 63), (1492, 1494, 64), (1496, 1498, 65), (1463, 1465, 59), (1467, 1469, 60), (1471, 1473, 61), (1475, 1476, 0), (1508, 1510, 66), (1552, 1553, 0), (1540, 1542, 72), (1544, 1546, 73), (1548, 1550, 74), (1559, 1561, 76), (1532, 1534, 70), (1536, 1538, 71), (1555, 1557, 75), (1563, 1565, 77), (1567, 1569, 78), (1571, 1573, 79), (1528, 1530, 69), (1575, 1577, 80), (1579, 1581, 81), (1584, 1586, 82), (1588, 1590, 83), (1607, 1609, 87), (1600, 1601, 0), (1596, 1598, 85), (1603, 1605, 86), (1592, 1594, 84), (1611, 1613, 88), (1520, 1522, 67), (1524, 1526, 68), (1619, 1621, 89), (1623, 1625, 90), (1627, 1629, 91), (1648, 1650, 93), (1643, 1636, 1637)]
def k_P4 : List AR := [(1644, 1646, 92), (1661, 1662, 0), (1669, 1671, 96), (1657, 1659, 94), (1665, 1667, 95), (1673, 1675, 97), (1677, 1679, 98), (1692, 1694, 100), (1685, 1686, 0), (1688, 1690, 99), (657, 658, 659), (647, 648, 649), (834, 835, 0), (653, 654, 655), (643, 644, 645), (661, 662, 0), (840, 841, 0), (837, 838, 0), (668, 0, 0), (664, 665, 0), (667, 0, 0), (671, 672, 0), (1010, 1011, 0)]
def k_P : List AR := k_P0 ++ (k_P1 ++ (k_P2 ++ (k_P3 ++ (k_P4))))
def m_P : List (Nat × Nat) := [(0, 0), (127, 102), (135, 103), (141, 104), (147, 105), (254, 106), (315, 107), (337, 108), (393, 109), (399, 110), (447, 111), (512, 112), (549, 102), (553, 107), (557, 108), (561, 108), (565, 105), (569, 104), (576, 108), (580, 105), (587, 104), (591, 105), (595, 115), (599, 108), (604, 104), (607, 115), (610, 115), (614, 108), (619, 108), (623, 105), (626, 115), (630, 108), (634, 105), (637, 115), (727, 109), (769, 102), (773, 102), (777, 102), (781, 102), (785, 103), (789, 104), (792, 122), (796, 106), (799, 115), (803, 106), (808, 106), (811, 115), (815, 106), (819, 103), (823, 103), (828, 103), (853, 103), (857, 103), (861, 103), (865, 103), (869, 103), (873, 103), (877, 104), (882, 103), (889, 105), (895, 103), (900, 103), (905, 103), (911, 103), (916, 104), (922, 103), (926, 112), (930, 107), (934, 102), (939, 112), (945, 112), (950, 107), (954, 102), (958, 102), (962, 102), (966, 108), (970, 102), (974, 108), (979, 109), (983, 109), (987, 110), (991, 110), (995, 110), (1000, 110), (1005, 110), (1009, 122), (1012, 122), (1016, 110), (1020, 110), (1024, 110), (1028, 110), (1032, 110), (1036, 110), (1040, 110), (1044, 110), (1048, 110), (1053, 110), (1058, 110), (1062, 110), (1066, 102), (1071, 102), (1075, 109), (1079, 102), (1083, 102), (1086, 102), (1091, 109), (1095, 111), (1100, 111), (1105, 111), (1108, 122), (1112, 111), (1117, 111), (1121, 111), (1125, 111), (1129, 111), (1133, 102), (1137, 109), (1141, 109), (1145, 109), (1149, 108), (1153, 102), (1157, 112), (1161, 109), (1165, 102), (1169, 107), (1173, 102), (1177, 107), (1181, 102), (1185, 109), (1190, 109), (1194, 102), (1198, 102), (1203, 121), (1411, 121), (1415, 121), (1419, 121), (1423, 121), (1426, 121), (1429, 121), (1432, 121), (1436, 121), (1440, 121), (1445, 121), (1454, 121), (1458, 121), (1462, 121), (1466, 121), (1470, 121), (1474, 121), (1477, 121), (1480, 121), (1487, 121), (1491, 121), (1495, 121), (1499, 121), (1503, 121), (1507, 121), (1511, 121), (1515, 121), (1519, 121), (1523, 121), (1527, 121), (1531, 121), (1535, 121), (1539, 121), (1543, 121), (1547, 121), (1551, 121), (1554, 121), (1558, 121), (1562, 121), (1566, 121), (1570, 121), (1574, 121), (1578, 121), (1582, 121), (1587, 121), (1591, 121), (1595, 121), (1599, 121), (1602, 121), (1606, 121), (1610, 121), (1614, 121), (1618, 121), (1622, 121), (1626, 121), (1630, 121), (1634, 121), (1638, 121), (1642, 121), (1647, 121), (1651, 121), (1655, 121), (1660, 121), (1663, 121), (1668, 121), (1672, 121), (1676, 121), (1680, 121), (1684, 121), (1687, 121), (1691, 121), (1695, 121), (1699, 121), (1703, 121), (1707, 121), (1711, 121), (1715, 121), (1719, 121), (1723, 121), (1727, 121), (656, 116), (660, 116), (650, 116), (833, 116), (839, 116), (836, 117), (842, 119), (642, 116), (646, 116), (663, 117), (666, 117), (673, 117)]
def at_p (k : Nat) (w : Cond) : Bool := decide (lw_tbl[k]? = some w) && goodWord w
theorem at_p_in {k : Nat} {w : Cond} (h : at_p k w = true) : w ∈ t_b := by
  unfold at_p at h
  simp only [Bool.and_eq_true, decide_eq_true_eq] at h
  exact t_in k h.1 h.2
def m_ok (i : Nat) : Bool := at_p (m_P.getD i (0, 0)).1 (.code (m_y i) (m_b i) (m_l i) (m_r i)) && at_p (m_P.getD i (0, 0)).2 (.initialized (m_y i).cls) && decide (o_N.getD (m_o i) "" = (m_y i).cls) && plainName (m_y i).cls && decide ((m_y i).cls ≠ "java/lang/invoke/MethodHandle") && decide ((m_y i).cls ≠ "java/lang/invoke/VarHandle")
def w_N : List Cond := [(Jvm.Cond.methodLinkNest "MarkBench$BookReader" (20 : Nat) ({ cls := "MarkBench$Book", name := "<init>", desc := "()V" } : Jvm.MethodName) "MarkBench"), (Jvm.Cond.methodLinkNest "MarkBench$BookReader" (27 : Nat) ({ cls := "MarkBench$Tokens", name := "<init>", desc := "()V" } : Jvm.MethodName) "MarkBench"), (Jvm.Cond.methodLinkNest "MarkBench" (24 : Nat) ({ cls := "MarkBench$Hands", name := "<init>", desc := "()V" } : Jvm.MethodName) "MarkBench"), (Jvm.Cond.methodLinkNest "MarkBench" (31 : Nat) ({ cls := "MarkBench$Choices", name := "<init>", desc := "()V" } : Jvm.MethodName) "MarkBench"), (Jvm.Cond.methodLinkNest "MarkBench" (51 : Nat) ({ cls := "MarkBench$Book", name := "<init>", desc := "()V" } : Jvm.MethodName) "MarkBench"), (Jvm.Cond.methodLinkNest "MarkBench" (58 : Nat) ({ cls := "MarkBench$Line", name := "<init>", desc := "()V" } : Jvm.MethodName) "MarkBench")]
def k_ok (e : ((Nat × Nat) × AR) × AR) : Bool := match e with
  | (((o, i), (k, mj, n)), (p1, p2, p3)) => match k with
    | 0 => decide (0 < mj ∧ mj < 224) && at_p p1 (.methodLink (o_N.getD o "") i (m_y mj)) && at_p p2 (.instanceMethod (m_y mj)) && at_p p3 (.selects (m_y mj).cls (m_y mj) (m_y mj)) && decide ((parseMethodDescriptor (m_y mj).desc).map (fun d => d.parameters.length) = some n)
    | 1 => decide (0 < mj ∧ mj < 224) && at_p p1 (.methodLink (o_N.getD o "") i (m_y mj)) && at_p p2 (.static (m_y mj)) && decide ((parseMethodDescriptor (m_y mj).desc).map (fun d => d.parameters.length) = some n)
    | 2 => decide (0 < mj ∧ mj < 224) && at_p p1 (.methodLink (o_N.getD o "") i (m_y mj)) && at_p p2 (.instanceMethod (m_y mj)) && decide ((m_y mj).name = "<init>") && decide (m_r mj = none) && decide ((parseMethodDescriptor (m_y mj).desc).map (fun d => d.parameters.length) = some n)
    | 3 => decide (0 < mj ∧ mj < 224) && decide (.methodLinkNest (o_N.getD o "") i (m_y mj) "MarkBench" ∈ w_N) && at_p p2 (.instanceMethod (m_y mj)) && decide ((m_y mj).name = "<init>") && decide (m_r mj = none) && decide ((parseMethodDescriptor (m_y mj).desc).map (fun d => d.parameters.length) = some n)
    | 4 => at_p p1 (.methodLink (o_N.getD o "") i Lib.objectInit)
    | 5 => at_p p1 (.methodLink (o_N.getD o "") i Lib.Math.min.name)
    | 6 => at_p p1 (.methodLink (o_N.getD o "") i Lib.Math.max.name)
    | 7 => at_p p1 (.methodLink (o_N.getD o "") i arraycopyName)
    | _ => false
theorem m_c1 : m_ok 1 = true := by decide +kernel
theorem m_c2 : m_ok 2 = true := by decide +kernel
theorem m_c3 : m_ok 3 = true := by decide +kernel
theorem m_c4 : m_ok 4 = true := by decide +kernel
theorem m_c5 : m_ok 5 = true := by decide +kernel
theorem m_c6 : m_ok 6 = true := by decide +kernel
theorem m_c7 : m_ok 7 = true := by decide +kernel
theorem m_c8 : m_ok 8 = true := by decide +kernel
theorem m_c9 : m_ok 9 = true := by decide +kernel
theorem m_c10 : m_ok 10 = true := by decide +kernel
theorem m_c11 : m_ok 11 = true := by decide +kernel
theorem m_c12 : m_ok 12 = true := by decide +kernel
theorem m_c13 : m_ok 13 = true := by decide +kernel
theorem m_c14 : m_ok 14 = true := by decide +kernel
theorem m_c15 : m_ok 15 = true := by decide +kernel
theorem m_c16 : m_ok 16 = true := by decide +kernel
theorem m_c17 : m_ok 17 = true := by decide +kernel
theorem m_c18 : m_ok 18 = true := by decide +kernel
theorem m_c19 : m_ok 19 = true := by decide +kernel
theorem m_c20 : m_ok 20 = true := by decide +kernel
theorem m_c21 : m_ok 21 = true := by decide +kernel
theorem m_c22 : m_ok 22 = true := by decide +kernel
theorem m_c23 : m_ok 23 = true := by decide +kernel
theorem m_c24 : m_ok 24 = true := by decide +kernel
theorem m_c25 : m_ok 25 = true := by decide +kernel
theorem m_c26 : m_ok 26 = true := by decide +kernel
theorem m_c27 : m_ok 27 = true := by decide +kernel
theorem m_c28 : m_ok 28 = true := by decide +kernel
theorem m_c29 : m_ok 29 = true := by decide +kernel
theorem m_c30 : m_ok 30 = true := by decide +kernel
theorem m_a1 : ∀ i ∈ [1, 2, 3, 4, 5, 6, 7, 8, 9, 10, 11, 12, 13, 14, 15, 16, 17, 18, 19, 20, 21, 22, 23, 24, 25, 26, 27, 28, 29, 30], m_ok i = true := List.forall_mem_cons.mpr ⟨m_c1, List.forall_mem_cons.mpr ⟨m_c2, List.forall_mem_cons.mpr ⟨m_c3, List.forall_mem_cons.mpr ⟨m_c4, List.forall_mem_cons.mpr ⟨m_c5, List.forall_mem_cons.mpr ⟨m_c6, List.forall_mem_cons.mpr ⟨m_c7, List.forall_mem_cons.mpr ⟨m_c8, List.forall_mem_cons.mpr ⟨m_c9, List.forall_mem_cons.mpr ⟨m_c10, List.forall_mem_cons.mpr ⟨m_c11, List.forall_mem_cons.mpr ⟨m_c12, List.forall_mem_cons.mpr ⟨m_c13, List.forall_mem_cons.mpr ⟨m_c14, List.forall_mem_cons.mpr ⟨m_c15, List.forall_mem_cons.mpr ⟨m_c16, List.forall_mem_cons.mpr ⟨m_c17, List.forall_mem_cons.mpr ⟨m_c18, List.forall_mem_cons.mpr ⟨m_c19, List.forall_mem_cons.mpr ⟨m_c20, List.forall_mem_cons.mpr ⟨m_c21, List.forall_mem_cons.mpr ⟨m_c22, List.forall_mem_cons.mpr ⟨m_c23, List.forall_mem_cons.mpr ⟨m_c24, List.forall_mem_cons.mpr ⟨m_c25, List.forall_mem_cons.mpr ⟨m_c26, List.forall_mem_cons.mpr ⟨m_c27, List.forall_mem_cons.mpr ⟨m_c28, List.forall_mem_cons.mpr ⟨m_c29, List.forall_mem_cons.mpr ⟨m_c30, fun _ h => absurd h List.not_mem_nil⟩⟩⟩⟩⟩⟩⟩⟩⟩⟩⟩⟩⟩⟩⟩⟩⟩⟩⟩⟩⟩⟩⟩⟩⟩⟩⟩⟩⟩⟩
theorem m_c31 : m_ok 31 = true := by decide +kernel
theorem m_c32 : m_ok 32 = true := by decide +kernel
theorem m_c33 : m_ok 33 = true := by decide +kernel
theorem m_c34 : m_ok 34 = true := by decide +kernel
theorem m_c35 : m_ok 35 = true := by decide +kernel
theorem m_c36 : m_ok 36 = true := by decide +kernel
theorem m_c37 : m_ok 37 = true := by decide +kernel
theorem m_c38 : m_ok 38 = true := by decide +kernel
theorem m_c39 : m_ok 39 = true := by decide +kernel
theorem m_c40 : m_ok 40 = true := by decide +kernel
theorem m_c41 : m_ok 41 = true := by decide +kernel
theorem m_c42 : m_ok 42 = true := by decide +kernel
theorem m_c43 : m_ok 43 = true := by decide +kernel
theorem m_c44 : m_ok 44 = true := by decide +kernel
theorem m_c45 : m_ok 45 = true := by decide +kernel
theorem m_c46 : m_ok 46 = true := by decide +kernel
theorem m_c47 : m_ok 47 = true := by decide +kernel
theorem m_c48 : m_ok 48 = true := by decide +kernel
theorem m_c49 : m_ok 49 = true := by decide +kernel
theorem m_c50 : m_ok 50 = true := by decide +kernel
theorem m_c51 : m_ok 51 = true := by decide +kernel
theorem m_c52 : m_ok 52 = true := by decide +kernel
theorem m_c53 : m_ok 53 = true := by decide +kernel
theorem m_c54 : m_ok 54 = true := by decide +kernel
theorem m_c55 : m_ok 55 = true := by decide +kernel
theorem m_c56 : m_ok 56 = true := by decide +kernel
theorem m_c57 : m_ok 57 = true := by decide +kernel
theorem m_c58 : m_ok 58 = true := by decide +kernel
theorem m_c59 : m_ok 59 = true := by decide +kernel
theorem m_c60 : m_ok 60 = true := by decide +kernel
theorem m_a31 : ∀ i ∈ [31, 32, 33, 34, 35, 36, 37, 38, 39, 40, 41, 42, 43, 44, 45, 46, 47, 48, 49, 50, 51, 52, 53, 54, 55, 56, 57, 58, 59, 60], m_ok i = true := List.forall_mem_cons.mpr ⟨m_c31, List.forall_mem_cons.mpr ⟨m_c32, List.forall_mem_cons.mpr ⟨m_c33, List.forall_mem_cons.mpr ⟨m_c34, List.forall_mem_cons.mpr ⟨m_c35, List.forall_mem_cons.mpr ⟨m_c36, List.forall_mem_cons.mpr ⟨m_c37, List.forall_mem_cons.mpr ⟨m_c38, List.forall_mem_cons.mpr ⟨m_c39, List.forall_mem_cons.mpr ⟨m_c40, List.forall_mem_cons.mpr ⟨m_c41, List.forall_mem_cons.mpr ⟨m_c42, List.forall_mem_cons.mpr ⟨m_c43, List.forall_mem_cons.mpr ⟨m_c44, List.forall_mem_cons.mpr ⟨m_c45, List.forall_mem_cons.mpr ⟨m_c46, List.forall_mem_cons.mpr ⟨m_c47, List.forall_mem_cons.mpr ⟨m_c48, List.forall_mem_cons.mpr ⟨m_c49, List.forall_mem_cons.mpr ⟨m_c50, List.forall_mem_cons.mpr ⟨m_c51, List.forall_mem_cons.mpr ⟨m_c52, List.forall_mem_cons.mpr ⟨m_c53, List.forall_mem_cons.mpr ⟨m_c54, List.forall_mem_cons.mpr ⟨m_c55, List.forall_mem_cons.mpr ⟨m_c56, List.forall_mem_cons.mpr ⟨m_c57, List.forall_mem_cons.mpr ⟨m_c58, List.forall_mem_cons.mpr ⟨m_c59, List.forall_mem_cons.mpr ⟨m_c60, fun _ h => absurd h List.not_mem_nil⟩⟩⟩⟩⟩⟩⟩⟩⟩⟩⟩⟩⟩⟩⟩⟩⟩⟩⟩⟩⟩⟩⟩⟩⟩⟩⟩⟩⟩⟩
theorem m_c61 : m_ok 61 = true := by decide +kernel
theorem m_c62 : m_ok 62 = true := by decide +kernel
theorem m_c63 : m_ok 63 = true := by decide +kernel
theorem m_c64 : m_ok 64 = true := by decide +kernel
theorem m_c65 : m_ok 65 = true := by decide +kernel
theorem m_c66 : m_ok 66 = true := by decide +kernel
theorem m_c67 : m_ok 67 = true := by decide +kernel
theorem m_c68 : m_ok 68 = true := by decide +kernel
theorem m_c69 : m_ok 69 = true := by decide +kernel
theorem m_c70 : m_ok 70 = true := by decide +kernel
theorem m_c71 : m_ok 71 = true := by decide +kernel
theorem m_c72 : m_ok 72 = true := by decide +kernel
theorem m_c73 : m_ok 73 = true := by decide +kernel
theorem m_c74 : m_ok 74 = true := by decide +kernel
theorem m_c75 : m_ok 75 = true := by decide +kernel
theorem m_c76 : m_ok 76 = true := by decide +kernel
theorem m_c77 : m_ok 77 = true := by decide +kernel
theorem m_c78 : m_ok 78 = true := by decide +kernel
theorem m_c79 : m_ok 79 = true := by decide +kernel
theorem m_c80 : m_ok 80 = true := by decide +kernel
theorem m_c81 : m_ok 81 = true := by decide +kernel
theorem m_c82 : m_ok 82 = true := by decide +kernel
theorem m_c83 : m_ok 83 = true := by decide +kernel
theorem m_c84 : m_ok 84 = true := by decide +kernel
theorem m_c85 : m_ok 85 = true := by decide +kernel
theorem m_c86 : m_ok 86 = true := by decide +kernel
theorem m_c87 : m_ok 87 = true := by decide +kernel
theorem m_c88 : m_ok 88 = true := by decide +kernel
theorem m_c89 : m_ok 89 = true := by decide +kernel
theorem m_c90 : m_ok 90 = true := by decide +kernel
theorem m_a61 : ∀ i ∈ [61, 62, 63, 64, 65, 66, 67, 68, 69, 70, 71, 72, 73, 74, 75, 76, 77, 78, 79, 80, 81, 82, 83, 84, 85, 86, 87, 88, 89, 90], m_ok i = true := List.forall_mem_cons.mpr ⟨m_c61, List.forall_mem_cons.mpr ⟨m_c62, List.forall_mem_cons.mpr ⟨m_c63, List.forall_mem_cons.mpr ⟨m_c64, List.forall_mem_cons.mpr ⟨m_c65, List.forall_mem_cons.mpr ⟨m_c66, List.forall_mem_cons.mpr ⟨m_c67, List.forall_mem_cons.mpr ⟨m_c68, List.forall_mem_cons.mpr ⟨m_c69, List.forall_mem_cons.mpr ⟨m_c70, List.forall_mem_cons.mpr ⟨m_c71, List.forall_mem_cons.mpr ⟨m_c72, List.forall_mem_cons.mpr ⟨m_c73, List.forall_mem_cons.mpr ⟨m_c74, List.forall_mem_cons.mpr ⟨m_c75, List.forall_mem_cons.mpr ⟨m_c76, List.forall_mem_cons.mpr ⟨m_c77, List.forall_mem_cons.mpr ⟨m_c78, List.forall_mem_cons.mpr ⟨m_c79, List.forall_mem_cons.mpr ⟨m_c80, List.forall_mem_cons.mpr ⟨m_c81, List.forall_mem_cons.mpr ⟨m_c82, List.forall_mem_cons.mpr ⟨m_c83, List.forall_mem_cons.mpr ⟨m_c84, List.forall_mem_cons.mpr ⟨m_c85, List.forall_mem_cons.mpr ⟨m_c86, List.forall_mem_cons.mpr ⟨m_c87, List.forall_mem_cons.mpr ⟨m_c88, List.forall_mem_cons.mpr ⟨m_c89, List.forall_mem_cons.mpr ⟨m_c90, fun _ h => absurd h List.not_mem_nil⟩⟩⟩⟩⟩⟩⟩⟩⟩⟩⟩⟩⟩⟩⟩⟩⟩⟩⟩⟩⟩⟩⟩⟩⟩⟩⟩⟩⟩⟩
theorem m_c91 : m_ok 91 = true := by decide +kernel
theorem m_c92 : m_ok 92 = true := by decide +kernel
theorem m_c93 : m_ok 93 = true := by decide +kernel
theorem m_c94 : m_ok 94 = true := by decide +kernel
theorem m_c95 : m_ok 95 = true := by decide +kernel
theorem m_c96 : m_ok 96 = true := by decide +kernel
theorem m_c97 : m_ok 97 = true := by decide +kernel
theorem m_c98 : m_ok 98 = true := by decide +kernel
theorem m_c99 : m_ok 99 = true := by decide +kernel
theorem m_c100 : m_ok 100 = true := by decide +kernel
theorem m_c101 : m_ok 101 = true := by decide +kernel
theorem m_c102 : m_ok 102 = true := by decide +kernel
theorem m_c103 : m_ok 103 = true := by decide +kernel
theorem m_c104 : m_ok 104 = true := by decide +kernel
theorem m_c105 : m_ok 105 = true := by decide +kernel
theorem m_c106 : m_ok 106 = true := by decide +kernel
theorem m_c107 : m_ok 107 = true := by decide +kernel
theorem m_c108 : m_ok 108 = true := by decide +kernel
theorem m_c109 : m_ok 109 = true := by decide +kernel
theorem m_c110 : m_ok 110 = true := by decide +kernel
theorem m_c111 : m_ok 111 = true := by decide +kernel
theorem m_c112 : m_ok 112 = true := by decide +kernel
theorem m_c113 : m_ok 113 = true := by decide +kernel
theorem m_c114 : m_ok 114 = true := by decide +kernel
theorem m_c115 : m_ok 115 = true := by decide +kernel
theorem m_c116 : m_ok 116 = true := by decide +kernel
theorem m_c117 : m_ok 117 = true := by decide +kernel
theorem m_c118 : m_ok 118 = true := by decide +kernel
theorem m_c119 : m_ok 119 = true := by decide +kernel
theorem m_c120 : m_ok 120 = true := by decide +kernel
theorem m_a91 : ∀ i ∈ [91, 92, 93, 94, 95, 96, 97, 98, 99, 100, 101, 102, 103, 104, 105, 106, 107, 108, 109, 110, 111, 112, 113, 114, 115, 116, 117, 118, 119, 120], m_ok i = true := List.forall_mem_cons.mpr ⟨m_c91, List.forall_mem_cons.mpr ⟨m_c92, List.forall_mem_cons.mpr ⟨m_c93, List.forall_mem_cons.mpr ⟨m_c94, List.forall_mem_cons.mpr ⟨m_c95, List.forall_mem_cons.mpr ⟨m_c96, List.forall_mem_cons.mpr ⟨m_c97, List.forall_mem_cons.mpr ⟨m_c98, List.forall_mem_cons.mpr ⟨m_c99, List.forall_mem_cons.mpr ⟨m_c100, List.forall_mem_cons.mpr ⟨m_c101, List.forall_mem_cons.mpr ⟨m_c102, List.forall_mem_cons.mpr ⟨m_c103, List.forall_mem_cons.mpr ⟨m_c104, List.forall_mem_cons.mpr ⟨m_c105, List.forall_mem_cons.mpr ⟨m_c106, List.forall_mem_cons.mpr ⟨m_c107, List.forall_mem_cons.mpr ⟨m_c108, List.forall_mem_cons.mpr ⟨m_c109, List.forall_mem_cons.mpr ⟨m_c110, List.forall_mem_cons.mpr ⟨m_c111, List.forall_mem_cons.mpr ⟨m_c112, List.forall_mem_cons.mpr ⟨m_c113, List.forall_mem_cons.mpr ⟨m_c114, List.forall_mem_cons.mpr ⟨m_c115, List.forall_mem_cons.mpr ⟨m_c116, List.forall_mem_cons.mpr ⟨m_c117, List.forall_mem_cons.mpr ⟨m_c118, List.forall_mem_cons.mpr ⟨m_c119, List.forall_mem_cons.mpr ⟨m_c120, fun _ h => absurd h List.not_mem_nil⟩⟩⟩⟩⟩⟩⟩⟩⟩⟩⟩⟩⟩⟩⟩⟩⟩⟩⟩⟩⟩⟩⟩⟩⟩⟩⟩⟩⟩⟩
theorem m_c121 : m_ok 121 = true := by decide +kernel
theorem m_c122 : m_ok 122 = true := by decide +kernel
theorem m_c123 : m_ok 123 = true := by decide +kernel
theorem m_c124 : m_ok 124 = true := by decide +kernel
theorem m_c125 : m_ok 125 = true := by decide +kernel
theorem m_c126 : m_ok 126 = true := by decide +kernel
theorem m_c127 : m_ok 127 = true := by decide +kernel
theorem m_c128 : m_ok 128 = true := by decide +kernel
theorem m_c129 : m_ok 129 = true := by decide +kernel
theorem m_c130 : m_ok 130 = true := by decide +kernel
theorem m_c131 : m_ok 131 = true := by decide +kernel
theorem m_c132 : m_ok 132 = true := by decide +kernel
theorem m_c133 : m_ok 133 = true := by decide +kernel
theorem m_c134 : m_ok 134 = true := by decide +kernel
theorem m_c135 : m_ok 135 = true := by decide +kernel
theorem m_c136 : m_ok 136 = true := by decide +kernel
theorem m_c137 : m_ok 137 = true := by decide +kernel
theorem m_c138 : m_ok 138 = true := by decide +kernel
theorem m_c139 : m_ok 139 = true := by decide +kernel
theorem m_c140 : m_ok 140 = true := by decide +kernel
theorem m_c141 : m_ok 141 = true := by decide +kernel
theorem m_c142 : m_ok 142 = true := by decide +kernel
theorem m_c143 : m_ok 143 = true := by decide +kernel
theorem m_c144 : m_ok 144 = true := by decide +kernel
theorem m_c145 : m_ok 145 = true := by decide +kernel
theorem m_c146 : m_ok 146 = true := by decide +kernel
theorem m_c147 : m_ok 147 = true := by decide +kernel
theorem m_c148 : m_ok 148 = true := by decide +kernel
theorem m_c149 : m_ok 149 = true := by decide +kernel
theorem m_c150 : m_ok 150 = true := by decide +kernel
theorem m_a121 : ∀ i ∈ [121, 122, 123, 124, 125, 126, 127, 128, 129, 130, 131, 132, 133, 134, 135, 136, 137, 138, 139, 140, 141, 142, 143, 144, 145, 146, 147, 148, 149, 150], m_ok i = true := List.forall_mem_cons.mpr ⟨m_c121, List.forall_mem_cons.mpr ⟨m_c122, List.forall_mem_cons.mpr ⟨m_c123, List.forall_mem_cons.mpr ⟨m_c124, List.forall_mem_cons.mpr ⟨m_c125, List.forall_mem_cons.mpr ⟨m_c126, List.forall_mem_cons.mpr ⟨m_c127, List.forall_mem_cons.mpr ⟨m_c128, List.forall_mem_cons.mpr ⟨m_c129, List.forall_mem_cons.mpr ⟨m_c130, List.forall_mem_cons.mpr ⟨m_c131, List.forall_mem_cons.mpr ⟨m_c132, List.forall_mem_cons.mpr ⟨m_c133, List.forall_mem_cons.mpr ⟨m_c134, List.forall_mem_cons.mpr ⟨m_c135, List.forall_mem_cons.mpr ⟨m_c136, List.forall_mem_cons.mpr ⟨m_c137, List.forall_mem_cons.mpr ⟨m_c138, List.forall_mem_cons.mpr ⟨m_c139, List.forall_mem_cons.mpr ⟨m_c140, List.forall_mem_cons.mpr ⟨m_c141, List.forall_mem_cons.mpr ⟨m_c142, List.forall_mem_cons.mpr ⟨m_c143, List.forall_mem_cons.mpr ⟨m_c144, List.forall_mem_cons.mpr ⟨m_c145, List.forall_mem_cons.mpr ⟨m_c146, List.forall_mem_cons.mpr ⟨m_c147, List.forall_mem_cons.mpr ⟨m_c148, List.forall_mem_cons.mpr ⟨m_c149, List.forall_mem_cons.mpr ⟨m_c150, fun _ h => absurd h List.not_mem_nil⟩⟩⟩⟩⟩⟩⟩⟩⟩⟩⟩⟩⟩⟩⟩⟩⟩⟩⟩⟩⟩⟩⟩⟩⟩⟩⟩⟩⟩⟩
theorem m_c151 : m_ok 151 = true := by decide +kernel
theorem m_c152 : m_ok 152 = true := by decide +kernel
theorem m_c153 : m_ok 153 = true := by decide +kernel
theorem m_c154 : m_ok 154 = true := by decide +kernel
theorem m_c155 : m_ok 155 = true := by decide +kernel
theorem m_c156 : m_ok 156 = true := by decide +kernel
theorem m_c157 : m_ok 157 = true := by decide +kernel
theorem m_c158 : m_ok 158 = true := by decide +kernel
theorem m_c159 : m_ok 159 = true := by decide +kernel
theorem m_c160 : m_ok 160 = true := by decide +kernel
theorem m_c161 : m_ok 161 = true := by decide +kernel
theorem m_c162 : m_ok 162 = true := by decide +kernel
theorem m_c163 : m_ok 163 = true := by decide +kernel
theorem m_c164 : m_ok 164 = true := by decide +kernel
theorem m_c165 : m_ok 165 = true := by decide +kernel
theorem m_c166 : m_ok 166 = true := by decide +kernel
theorem m_c167 : m_ok 167 = true := by decide +kernel
theorem m_c168 : m_ok 168 = true := by decide +kernel
theorem m_c169 : m_ok 169 = true := by decide +kernel
theorem m_c170 : m_ok 170 = true := by decide +kernel
theorem m_c171 : m_ok 171 = true := by decide +kernel
theorem m_c172 : m_ok 172 = true := by decide +kernel
theorem m_c173 : m_ok 173 = true := by decide +kernel
theorem m_c174 : m_ok 174 = true := by decide +kernel
theorem m_c175 : m_ok 175 = true := by decide +kernel
theorem m_c176 : m_ok 176 = true := by decide +kernel
theorem m_c177 : m_ok 177 = true := by decide +kernel
theorem m_c178 : m_ok 178 = true := by decide +kernel
theorem m_c179 : m_ok 179 = true := by decide +kernel
theorem m_c180 : m_ok 180 = true := by decide +kernel
theorem m_a151 : ∀ i ∈ [151, 152, 153, 154, 155, 156, 157, 158, 159, 160, 161, 162, 163, 164, 165, 166, 167, 168, 169, 170, 171, 172, 173, 174, 175, 176, 177, 178, 179, 180], m_ok i = true := List.forall_mem_cons.mpr ⟨m_c151, List.forall_mem_cons.mpr ⟨m_c152, List.forall_mem_cons.mpr ⟨m_c153, List.forall_mem_cons.mpr ⟨m_c154, List.forall_mem_cons.mpr ⟨m_c155, List.forall_mem_cons.mpr ⟨m_c156, List.forall_mem_cons.mpr ⟨m_c157, List.forall_mem_cons.mpr ⟨m_c158, List.forall_mem_cons.mpr ⟨m_c159, List.forall_mem_cons.mpr ⟨m_c160, List.forall_mem_cons.mpr ⟨m_c161, List.forall_mem_cons.mpr ⟨m_c162, List.forall_mem_cons.mpr ⟨m_c163, List.forall_mem_cons.mpr ⟨m_c164, List.forall_mem_cons.mpr ⟨m_c165, List.forall_mem_cons.mpr ⟨m_c166, List.forall_mem_cons.mpr ⟨m_c167, List.forall_mem_cons.mpr ⟨m_c168, List.forall_mem_cons.mpr ⟨m_c169, List.forall_mem_cons.mpr ⟨m_c170, List.forall_mem_cons.mpr ⟨m_c171, List.forall_mem_cons.mpr ⟨m_c172, List.forall_mem_cons.mpr ⟨m_c173, List.forall_mem_cons.mpr ⟨m_c174, List.forall_mem_cons.mpr ⟨m_c175, List.forall_mem_cons.mpr ⟨m_c176, List.forall_mem_cons.mpr ⟨m_c177, List.forall_mem_cons.mpr ⟨m_c178, List.forall_mem_cons.mpr ⟨m_c179, List.forall_mem_cons.mpr ⟨m_c180, fun _ h => absurd h List.not_mem_nil⟩⟩⟩⟩⟩⟩⟩⟩⟩⟩⟩⟩⟩⟩⟩⟩⟩⟩⟩⟩⟩⟩⟩⟩⟩⟩⟩⟩⟩⟩
theorem m_c181 : m_ok 181 = true := by decide +kernel
theorem m_c182 : m_ok 182 = true := by decide +kernel
theorem m_c183 : m_ok 183 = true := by decide +kernel
theorem m_c184 : m_ok 184 = true := by decide +kernel
theorem m_c185 : m_ok 185 = true := by decide +kernel
theorem m_c186 : m_ok 186 = true := by decide +kernel
theorem m_c187 : m_ok 187 = true := by decide +kernel
theorem m_c188 : m_ok 188 = true := by decide +kernel
theorem m_c189 : m_ok 189 = true := by decide +kernel
theorem m_c190 : m_ok 190 = true := by decide +kernel
theorem m_c191 : m_ok 191 = true := by decide +kernel
theorem m_c192 : m_ok 192 = true := by decide +kernel
theorem m_c193 : m_ok 193 = true := by decide +kernel
theorem m_c194 : m_ok 194 = true := by decide +kernel
theorem m_c195 : m_ok 195 = true := by decide +kernel
theorem m_c196 : m_ok 196 = true := by decide +kernel
theorem m_c197 : m_ok 197 = true := by decide +kernel
theorem m_c198 : m_ok 198 = true := by decide +kernel
theorem m_c199 : m_ok 199 = true := by decide +kernel
theorem m_c200 : m_ok 200 = true := by decide +kernel
theorem m_c201 : m_ok 201 = true := by decide +kernel
theorem m_c202 : m_ok 202 = true := by decide +kernel
theorem m_c203 : m_ok 203 = true := by decide +kernel
theorem m_c204 : m_ok 204 = true := by decide +kernel
theorem m_c205 : m_ok 205 = true := by decide +kernel
theorem m_c206 : m_ok 206 = true := by decide +kernel
theorem m_c207 : m_ok 207 = true := by decide +kernel
theorem m_c208 : m_ok 208 = true := by decide +kernel
theorem m_c209 : m_ok 209 = true := by decide +kernel
theorem m_c210 : m_ok 210 = true := by decide +kernel
theorem m_a181 : ∀ i ∈ [181, 182, 183, 184, 185, 186, 187, 188, 189, 190, 191, 192, 193, 194, 195, 196, 197, 198, 199, 200, 201, 202, 203, 204, 205, 206, 207, 208, 209, 210], m_ok i = true := List.forall_mem_cons.mpr ⟨m_c181, List.forall_mem_cons.mpr ⟨m_c182, List.forall_mem_cons.mpr ⟨m_c183, List.forall_mem_cons.mpr ⟨m_c184, List.forall_mem_cons.mpr ⟨m_c185, List.forall_mem_cons.mpr ⟨m_c186, List.forall_mem_cons.mpr ⟨m_c187, List.forall_mem_cons.mpr ⟨m_c188, List.forall_mem_cons.mpr ⟨m_c189, List.forall_mem_cons.mpr ⟨m_c190, List.forall_mem_cons.mpr ⟨m_c191, List.forall_mem_cons.mpr ⟨m_c192, List.forall_mem_cons.mpr ⟨m_c193, List.forall_mem_cons.mpr ⟨m_c194, List.forall_mem_cons.mpr ⟨m_c195, List.forall_mem_cons.mpr ⟨m_c196, List.forall_mem_cons.mpr ⟨m_c197, List.forall_mem_cons.mpr ⟨m_c198, List.forall_mem_cons.mpr ⟨m_c199, List.forall_mem_cons.mpr ⟨m_c200, List.forall_mem_cons.mpr ⟨m_c201, List.forall_mem_cons.mpr ⟨m_c202, List.forall_mem_cons.mpr ⟨m_c203, List.forall_mem_cons.mpr ⟨m_c204, List.forall_mem_cons.mpr ⟨m_c205, List.forall_mem_cons.mpr ⟨m_c206, List.forall_mem_cons.mpr ⟨m_c207, List.forall_mem_cons.mpr ⟨m_c208, List.forall_mem_cons.mpr ⟨m_c209, List.forall_mem_cons.mpr ⟨m_c210, fun _ h => absurd h List.not_mem_nil⟩⟩⟩⟩⟩⟩⟩⟩⟩⟩⟩⟩⟩⟩⟩⟩⟩⟩⟩⟩⟩⟩⟩⟩⟩⟩⟩⟩⟩⟩
theorem m_c211 : m_ok 211 = true := by decide +kernel
theorem m_c212 : m_ok 212 = true := by decide +kernel
theorem m_c213 : m_ok 213 = true := by decide +kernel
theorem m_c214 : m_ok 214 = true := by decide +kernel
theorem m_c215 : m_ok 215 = true := by decide +kernel
theorem m_c216 : m_ok 216 = true := by decide +kernel
theorem m_c217 : m_ok 217 = true := by decide +kernel
theorem m_c218 : m_ok 218 = true := by decide +kernel
theorem m_c219 : m_ok 219 = true := by decide +kernel
theorem m_c220 : m_ok 220 = true := by decide +kernel
theorem m_c221 : m_ok 221 = true := by decide +kernel
theorem m_c222 : m_ok 222 = true := by decide +kernel
theorem m_c223 : m_ok 223 = true := by decide +kernel
theorem m_a211 : ∀ i ∈ [211, 212, 213, 214, 215, 216, 217, 218, 219, 220, 221, 222, 223], m_ok i = true := List.forall_mem_cons.mpr ⟨m_c211, List.forall_mem_cons.mpr ⟨m_c212, List.forall_mem_cons.mpr ⟨m_c213, List.forall_mem_cons.mpr ⟨m_c214, List.forall_mem_cons.mpr ⟨m_c215, List.forall_mem_cons.mpr ⟨m_c216, List.forall_mem_cons.mpr ⟨m_c217, List.forall_mem_cons.mpr ⟨m_c218, List.forall_mem_cons.mpr ⟨m_c219, List.forall_mem_cons.mpr ⟨m_c220, List.forall_mem_cons.mpr ⟨m_c221, List.forall_mem_cons.mpr ⟨m_c222, List.forall_mem_cons.mpr ⟨m_c223, fun _ h => absurd h List.not_mem_nil⟩⟩⟩⟩⟩⟩⟩⟩⟩⟩⟩⟩⟩
theorem m_is {i : Nat} (h0 : 0 < i) (h : i < 224) : m_ok i = true := by
  rcases Nat.lt_or_ge i 31 with q1 | q1
  · exact m_a1 i (by rw [show i = i from rfl]; simp only [List.mem_cons, List.not_mem_nil, or_false]; omega)
  rcases Nat.lt_or_ge i 61 with q31 | q31
  · exact m_a31 i (by rw [show i = i from rfl]; simp only [List.mem_cons, List.not_mem_nil, or_false]; omega)
  rcases Nat.lt_or_ge i 91 with q61 | q61
  · exact m_a61 i (by rw [show i = i from rfl]; simp only [List.mem_cons, List.not_mem_nil, or_false]; omega)
  rcases Nat.lt_or_ge i 121 with q91 | q91
  · exact m_a91 i (by rw [show i = i from rfl]; simp only [List.mem_cons, List.not_mem_nil, or_false]; omega)
  rcases Nat.lt_or_ge i 151 with q121 | q121
  · exact m_a121 i (by rw [show i = i from rfl]; simp only [List.mem_cons, List.not_mem_nil, or_false]; omega)
  rcases Nat.lt_or_ge i 181 with q151 | q151
  · exact m_a151 i (by rw [show i = i from rfl]; simp only [List.mem_cons, List.not_mem_nil, or_false]; omega)
  rcases Nat.lt_or_ge i 211 with q181 | q181
  · exact m_a181 i (by rw [show i = i from rfl]; simp only [List.mem_cons, List.not_mem_nil, or_false]; omega)
  rcases Nat.lt_or_ge i 224 with q211 | q211
  · exact m_a211 i (by rw [show i = i from rfl]; simp only [List.mem_cons, List.not_mem_nil, or_false]; omega)
  omega
end
section
theorem k_c0 : k_ok (((1, 3), (4, 0, 0)), (128, 0, 0)) = true := by decide +kernel
theorem k_c1 : k_ok (((1, 15), (2, 2, 1)), (133, 134, 0)) = true := by decide +kernel
theorem k_c2 : k_ok (((1, 24), (3, 6, 0)), (313, 314, 0)) = true := by decide +kernel
theorem k_c3 : k_ok (((1, 31), (3, 7, 0)), (335, 336, 0)) = true := by decide +kernel
theorem k_c4 : k_ok (((1, 38), (2, 8, 1)), (391, 392, 0)) = true := by decide +kernel
theorem k_c5 : k_ok (((1, 51), (3, 3, 0)), (507, 140, 0)) = true := by decide +kernel
theorem k_c6 : k_ok (((1, 58), (3, 11, 0)), (510, 511, 0)) = true := by decide +kernel
theorem k_c7 : k_ok (((1, 75), (0, 12, 0)), (546, 548, 0)) = true := by decide +kernel
theorem k_c8 : k_ok (((1, 78), (0, 36, 1)), (770, 772, 7)) = true := by decide +kernel
theorem k_c9 : k_ok (((1, 82), (0, 39, 1)), (782, 783, 784)) = true := by decide +kernel
theorem k_c10 : k_ok (((1, 91), (0, 66, 0)), (923, 924, 925)) = true := by decide +kernel
theorem k_c11 : k_ok (((1, 94), (0, 67, 0)), (927, 928, 929)) = true := by decide +kernel
theorem k_c12 : k_ok (((1, 105), (0, 69, 3)), (936, 937, 938)) = true := by decide +kernel
theorem k_c13 : k_ok (((1, 108), (0, 71, 0)), (947, 948, 949)) = true := by decide +kernel
theorem k_c14 : k_ok (((1, 117), (0, 34, 2)), (724, 725, 726)) = true := by decide +kernel
theorem k_c15 : k_ok (((1, 121), (0, 75, 1)), (963, 964, 965)) = true := by decide +kernel
theorem k_c16 : k_ok (((1, 127), (0, 77, 2)), (971, 972, 973)) = true := by decide +kernel
theorem k_c17 : k_ok (((1, 152), (0, 78, 1)), (976, 977, 978)) = true := by decide +kernel
theorem k_c18 : k_ok (((1, 156), (0, 32, 2)), (1067, 632, 633)) = true := by decide +kernel
theorem k_c19 : k_ok (((1, 160), (0, 101, 0)), (1072, 1073, 1074)) = true := by decide +kernel
theorem k_c20 : k_ok (((1, 170), (1, 104, 1)), (1084, 1085, 0)) = true := by decide +kernel
theorem k_c21 : k_ok (((1, 175), (0, 105, 1)), (1088, 1089, 1090)) = true := by decide +kernel
theorem k_c22 : k_ok (((1, 179), (0, 116, 2)), (1134, 1135, 1136)) = true := by decide +kernel
theorem k_c23 : k_ok (((1, 186), (0, 121, 1)), (1154, 1155, 1156)) = true := by decide +kernel
theorem k_c24 : k_ok (((1, 192), (0, 122, 2)), (1158, 1159, 1160)) = true := by decide +kernel
theorem k_c25 : k_ok (((1, 202), (0, 124, 2)), (1166, 1167, 1168)) = true := by decide +kernel
theorem k_c26 : k_ok (((1, 205), (0, 126, 1)), (1174, 1175, 1176)) = true := by decide +kernel
theorem k_c27 : k_ok (((1, 213), (0, 128, 1)), (1182, 1183, 1184)) = true := by decide +kernel
theorem k_c28 : k_ok (((1, 237), (0, 13, 1)), (550, 551, 552)) = true := by decide +kernel
theorem k_c29 : k_ok (((1, 240), (0, 14, 4)), (554, 555, 556)) = true := by decide +kernel
theorem k_c30 : k_ok (((2, 3), (4, 0, 0)), (142, 0, 0)) = true := by decide +kernel
theorem k_c31 : k_ok (((2, 11), (2, 4, 1)), (145, 146, 0)) = true := by decide +kernel
theorem k_c32 : k_ok (((2, 72), (1, 41, 2)), (790, 791, 0)) = true := by decide +kernel
theorem k_c33 : k_ok (((2, 78), (0, 29, 4)), (878, 621, 622)) = true := by decide +kernel
theorem k_c34 : k_ok (((2, 82), (0, 21, 4)), (588, 589, 590)) = true := by decide +kernel
theorem k_c35 : k_ok (((2, 85), (6, 0, 2)), (570, 0, 0)) = true := by decide +kernel
theorem k_c36 : k_ok (((3, 3), (4, 0, 0)), (136, 0, 0)) = true := by decide +kernel
theorem k_c37 : k_ok (((3, 20), (3, 3, 0)), (139, 140, 0)) = true := by decide +kernel
theorem k_c38 : k_ok (((3, 27), (3, 5, 0)), (252, 253, 0)) = true := by decide +kernel
theorem k_c39 : k_ok (((3, 51), (0, 40, 0)), (786, 787, 788)) = true := by decide +kernel
theorem k_c40 : k_ok (((3, 54), (0, 42, 2)), (793, 794, 795)) = true := by decide +kernel
theorem k_c41 : k_ok (((3, 61), (0, 48, 0)), (816, 818, 11)) = true := by decide +kernel
theorem k_c42 : k_ok (((3, 64), (0, 49, 0)), (820, 822, 12)) = true := by decide +kernel
theorem k_c43 : k_ok (((3, 70), (0, 50, 1)), (825, 827, 13)) = true := by decide +kernel
theorem k_c44 : k_ok (((3, 74), (0, 51, 0)), (850, 852, 14)) = true := by decide +kernel
theorem k_c45 : k_ok (((3, 79), (0, 60, 0)), (892, 894, 21)) = true := by decide +kernel
theorem k_c46 : k_ok (((3, 84), (0, 62, 0)), (902, 904, 23)) = true := by decide +kernel
theorem k_c47 : k_ok (((3, 89), (0, 63, 1)), (908, 910, 24)) = true := by decide +kernel
theorem k_c48 : k_ok (((3, 97), (0, 65, 0)), (919, 921, 25)) = true := by decide +kernel
theorem k_c49 : k_ok (((3, 100), (0, 52, 0)), (854, 856, 15)) = true := by decide +kernel
theorem k_c50 : k_ok (((3, 110), (0, 53, 0)), (858, 860, 16)) = true := by decide +kernel
theorem k_c51 : k_ok (((3, 113), (0, 55, 1)), (866, 868, 18)) = true := by decide +kernel
theorem k_c52 : k_ok (((3, 117), (0, 57, 4)), (874, 875, 876)) = true := by decide +kernel
theorem k_c53 : k_ok (((3, 121), (0, 56, 2)), (870, 872, 19)) = true := by decide +kernel
theorem k_c54 : k_ok (((3, 135), (0, 58, 1)), (879, 881, 20)) = true := by decide +kernel
theorem k_c55 : k_ok (((3, 138), (0, 59, 3)), (886, 887, 888)) = true := by decide +kernel
theorem k_c56 : k_ok (((3, 151), (0, 54, 1)), (862, 864, 17)) = true := by decide +kernel
theorem k_c57 : k_ok (((3, 157), (1, 22, 5)), (896, 594, 0)) = true := by decide +kernel
theorem k_c58 : k_ok (((3, 169), (0, 61, 0)), (897, 899, 22)) = true := by decide +kernel
theorem k_c59 : k_ok (((3, 175), (0, 20, 3)), (906, 585, 586)) = true := by decide +kernel
theorem k_a0 : ∀ e ∈ k_T0.zip k_P0, k_ok e = true := List.forall_mem_cons.mpr ⟨k_c0, List.forall_mem_cons.mpr ⟨k_c1, List.forall_mem_cons.mpr ⟨k_c2, List.forall_mem_cons.mpr ⟨k_c3, List.forall_mem_cons.mpr ⟨k_c4, List.forall_mem_cons.mpr ⟨k_c5, List.forall_mem_cons.mpr ⟨k_c6, List.forall_mem_cons.mpr ⟨k_c7, List.forall_mem_cons.mpr ⟨k_c8, List.forall_mem_cons.mpr ⟨k_c9, List.forall_mem_cons.mpr ⟨k_c10, List.forall_mem_cons.mpr ⟨k_c11, List.forall_mem_cons.mpr ⟨k_c12, List.forall_mem_cons.mpr ⟨k_c13, List.forall_mem_cons.mpr ⟨k_c14, List.forall_mem_cons.mpr ⟨k_c15, List.forall_mem_cons.mpr ⟨k_c16, List.forall_mem_cons.mpr ⟨k_c17, List.forall_mem_cons.mpr ⟨k_c18, List.forall_mem_cons.mpr ⟨k_c19, List.forall_mem_cons.mpr ⟨k_c20, List.forall_mem_cons.mpr ⟨k_c21, List.forall_mem_cons.mpr ⟨k_c22, List.forall_mem_cons.mpr ⟨k_c23, List.forall_mem_cons.mpr ⟨k_c24, List.forall_mem_cons.mpr ⟨k_c25, List.forall_mem_cons.mpr ⟨k_c26, List.forall_mem_cons.mpr ⟨k_c27, List.forall_mem_cons.mpr ⟨k_c28, List.forall_mem_cons.mpr ⟨k_c29, List.forall_mem_cons.mpr ⟨k_c30, List.forall_mem_cons.mpr ⟨k_c31, List.forall_mem_cons.mpr ⟨k_c32, List.forall_mem_cons.mpr ⟨k_c33, List.forall_mem_cons.mpr ⟨k_c34, List.forall_mem_cons.mpr ⟨k_c35, List.forall_mem_cons.mpr ⟨k_c36, List.forall_mem_cons.mpr ⟨k_c37, List.forall_mem_cons.mpr ⟨k_c38, List.forall_mem_cons.mpr ⟨k_c39, List.forall_mem_cons.mpr ⟨k_c40, List.forall_mem_cons.mpr ⟨k_c41, List.forall_mem_cons.mpr ⟨k_c42, List.forall_mem_cons.mpr ⟨k_c43, List.forall_mem_cons.mpr ⟨k_c44, List.forall_mem_cons.mpr ⟨k_c45, List.forall_mem_cons.mpr ⟨k_c46, List.forall_mem_cons.mpr ⟨k_c47, List.forall_mem_cons.mpr ⟨k_c48, List.forall_mem_cons.mpr ⟨k_c49, List.forall_mem_cons.mpr ⟨k_c50, List.forall_mem_cons.mpr ⟨k_c51, List.forall_mem_cons.mpr ⟨k_c52, List.forall_mem_cons.mpr ⟨k_c53, List.forall_mem_cons.mpr ⟨k_c54, List.forall_mem_cons.mpr ⟨k_c55, List.forall_mem_cons.mpr ⟨k_c56, List.forall_mem_cons.mpr ⟨k_c57, List.forall_mem_cons.mpr ⟨k_c58, List.forall_mem_cons.mpr ⟨k_c59, fun _ h => absurd h List.not_mem_nil⟩⟩⟩⟩⟩⟩⟩⟩⟩⟩⟩⟩⟩⟩⟩⟩⟩⟩⟩⟩⟩⟩⟩⟩⟩⟩⟩⟩⟩⟩⟩⟩⟩⟩⟩⟩⟩⟩⟩⟩⟩⟩⟩⟩⟩⟩⟩⟩⟩⟩⟩⟩⟩⟩⟩⟩⟩⟩⟩⟩
theorem k_c60 : k_ok (((3, 187), (0, 64, 2)), (913, 914, 915)) = true := by decide +kernel
theorem k_c61 : k_ok (((3, 201), (0, 212, 0)), (829, 654, 655)) = true := by decide +kernel
theorem k_c62 : k_ok (((3, 206), (0, 215, 1)), (830, 831, 832)) = true := by decide +kernel
theorem k_c63 : k_ok (((4, 3), (4, 0, 0)), (338, 0, 0)) = true := by decide +kernel
theorem k_c64 : k_ok (((4, 20), (2, 4, 1)), (340, 146, 0)) = true := by decide +kernel
theorem k_c65 : k_ok (((4, 47), (0, 75, 1)), (975, 964, 965)) = true := by decide +kernel
theorem k_c66 : k_ok (((4, 59), (0, 15, 3)), (558, 560, 1)) = true := by decide +kernel
theorem k_c67 : k_ok (((4, 70), (0, 20, 3)), (584, 585, 586)) = true := by decide +kernel
theorem k_c68 : k_ok (((4, 76), (0, 18, 6)), (573, 575, 2)) = true := by decide +kernel
theorem k_c69 : k_ok (((4, 80), (0, 23, 3)), (596, 598, 3)) = true := by decide +kernel
theorem k_c70 : k_ok (((4, 84), (0, 27, 3)), (611, 613, 4)) = true := by decide +kernel
theorem k_c71 : k_ok (((4, 87), (0, 31, 1)), (627, 629, 6)) = true := by decide +kernel
theorem k_c72 : k_ok (((4, 95), (0, 21, 4)), (600, 589, 590)) = true := by decide +kernel
theorem k_c73 : k_ok (((4, 102), (0, 24, 2)), (601, 602, 603)) = true := by decide +kernel
theorem k_c74 : k_ok (((4, 109), (0, 16, 1)), (562, 563, 564)) = true := by decide +kernel
theorem k_c75 : k_ok (((4, 113), (1, 25, 5)), (605, 606, 0)) = true := by decide +kernel
theorem k_c76 : k_ok (((4, 123), (7, 0, 5)), (615, 0, 0)) = true := by decide +kernel
theorem k_c77 : k_ok (((4, 129), (0, 28, 4)), (616, 618, 5)) = true := by decide +kernel
theorem k_c78 : k_ok (((4, 144), (0, 29, 4)), (620, 621, 622)) = true := by decide +kernel
theorem k_c79 : k_ok (((4, 148), (0, 17, 1)), (566, 567, 568)) = true := by decide +kernel
theorem k_c80 : k_ok (((4, 151), (0, 19, 4)), (577, 578, 579)) = true := by decide +kernel
theorem k_c81 : k_ok (((4, 155), (0, 32, 2)), (631, 632, 633)) = true := by decide +kernel
theorem k_c82 : k_ok (((4, 159), (1, 33, 1)), (635, 636, 0)) = true := by decide +kernel
theorem k_c83 : k_ok (((4, 163), (1, 26, 1)), (723, 609, 0)) = true := by decide +kernel
theorem k_c84 : k_ok (((5, 3), (4, 0, 0)), (148, 0, 0)) = true := by decide +kernel
theorem k_c85 : k_ok (((5, 23), (7, 0, 5)), (581, 0, 0)) = true := by decide +kernel
theorem k_c86 : k_ok (((5, 29), (0, 19, 4)), (890, 578, 579)) = true := by decide +kernel
theorem k_c87 : k_ok (((5, 33), (0, 16, 1)), (592, 563, 564)) = true := by decide +kernel
theorem k_c88 : k_ok (((5, 37), (1, 30, 5)), (624, 625, 0)) = true := by decide +kernel
theorem k_c89 : k_ok (((5, 43), (1, 22, 5)), (593, 594, 0)) = true := by decide +kernel
theorem k_c90 : k_ok (((6, 3), (4, 0, 0)), (316, 0, 0)) = true := by decide +kernel
theorem k_c91 : k_ok (((7, 11), (0, 219, 1)), (639, 640, 641)) = true := by decide +kernel
theorem k_c92 : k_ok (((7, 17), (1, 26, 1)), (608, 609, 0)) = true := by decide +kernel
theorem k_c93 : k_ok (((8, 3), (4, 0, 0)), (513, 0, 0)) = true := by decide +kernel
theorem k_c94 : k_ok (((8, 36), (0, 66, 0)), (940, 924, 925)) = true := by decide +kernel
theorem k_c95 : k_ok (((8, 39), (1, 43, 1)), (941, 798, 0)) = true := by decide +kernel
theorem k_c96 : k_ok (((8, 45), (0, 70, 2)), (942, 944, 26)) = true := by decide +kernel
theorem k_c97 : k_ok (((8, 49), (7, 0, 5)), (946, 0, 0)) = true := by decide +kernel
theorem k_c98 : k_ok (((9, 3), (4, 0, 0)), (394, 0, 0)) = true := by decide +kernel
theorem k_c99 : k_ok (((9, 48), (2, 9, 1)), (397, 398, 0)) = true := by decide +kernel
theorem k_c100 : k_ok (((9, 57), (2, 10, 1)), (445, 446, 0)) = true := by decide +kernel
theorem k_c101 : k_ok (((9, 69), (0, 80, 2)), (984, 985, 986)) = true := by decide +kernel
theorem k_c102 : k_ok (((9, 73), (0, 84, 4)), (1002, 1003, 1004)) = true := by decide +kernel
theorem k_c103 : k_ok (((9, 78), (0, 97, 2)), (1055, 1056, 1057)) = true := by decide +kernel
theorem k_c104 : k_ok (((9, 82), (0, 79, 0)), (980, 982, 27)) = true := by decide +kernel
theorem k_c105 : k_ok (((9, 85), (0, 106, 1)), (1092, 1093, 1094)) = true := by decide +kernel
theorem k_c106 : k_ok (((9, 93), (0, 117, 4)), (1138, 1140, 47)) = true := by decide +kernel
theorem k_c107 : k_ok (((9, 97), (0, 118, 4)), (1142, 1144, 48)) = true := by decide +kernel
theorem k_c108 : k_ok (((9, 104), (0, 119, 2)), (1146, 1147, 1148)) = true := by decide +kernel
theorem k_c109 : k_ok (((9, 108), (0, 116, 2)), (1186, 1135, 1136)) = true := by decide +kernel
theorem k_c110 : k_ok (((9, 111), (0, 129, 2)), (1187, 1189, 49)) = true := by decide +kernel
theorem k_c111 : k_ok (((10, 7), (4, 0, 0)), (448, 0, 0)) = true := by decide +kernel
theorem k_c112 : k_ok (((10, 33), (0, 107, 2)), (1097, 1099, 40)) = true := by decide +kernel
theorem k_c113 : k_ok (((10, 37), (0, 110, 1)), (1109, 1111, 42)) = true := by decide +kernel
theorem k_c114 : k_ok (((10, 47), (0, 111, 1)), (1114, 1116, 43)) = true := by decide +kernel
theorem k_c115 : k_ok (((10, 50), (0, 114, 0)), (1126, 1128, 46)) = true := by decide +kernel
theorem k_c116 : k_ok (((10, 57), (0, 88, 2)), (1101, 1018, 1019)) = true := by decide +kernel
theorem k_c117 : k_ok (((10, 61), (0, 108, 3)), (1102, 1104, 41)) = true := by decide +kernel
theorem k_c118 : k_ok (((10, 68), (1, 109, 4)), (1106, 1107, 0)) = true := by decide +kernel
theorem k_c119 : k_ok (((10, 86), (0, 98, 3)), (1113, 1060, 1061)) = true := by decide +kernel
theorem k_a1 : ∀ e ∈ k_T1.zip k_P1, k_ok e = true := List.forall_mem_cons.mpr ⟨k_c60, List.forall_mem_cons.mpr ⟨k_c61, List.forall_mem_cons.mpr ⟨k_c62, List.forall_mem_cons.mpr ⟨k_c63, List.forall_mem_cons.mpr ⟨k_c64, List.forall_mem_cons.mpr ⟨k_c65, List.forall_mem_cons.mpr ⟨k_c66, List.forall_mem_cons.mpr ⟨k_c67, List.forall_mem_cons.mpr ⟨k_c68, List.forall_mem_cons.mpr ⟨k_c69, List.forall_mem_cons.mpr ⟨k_c70, List.forall_mem_cons.mpr ⟨k_c71, List.forall_mem_cons.mpr ⟨k_c72, List.forall_mem_cons.mpr ⟨k_c73, List.forall_mem_cons.mpr ⟨k_c74, List.forall_mem_cons.mpr ⟨k_c75, List.forall_mem_cons.mpr ⟨k_c76, List.forall_mem_cons.mpr ⟨k_c77, List.forall_mem_cons.mpr ⟨k_c78, List.forall_mem_cons.mpr ⟨k_c79, List.forall_mem_cons.mpr ⟨k_c80, List.forall_mem_cons.mpr ⟨k_c81, List.forall_mem_cons.mpr ⟨k_c82, List.forall_mem_cons.mpr ⟨k_c83, List.forall_mem_cons.mpr ⟨k_c84, List.forall_mem_cons.mpr ⟨k_c85, List.forall_mem_cons.mpr ⟨k_c86, List.forall_mem_cons.mpr ⟨k_c87, List.forall_mem_cons.mpr ⟨k_c88, List.forall_mem_cons.mpr ⟨k_c89, List.forall_mem_cons.mpr ⟨k_c90, List.forall_mem_cons.mpr ⟨k_c91, List.forall_mem_cons.mpr ⟨k_c92, List.forall_mem_cons.mpr ⟨k_c93, List.forall_mem_cons.mpr ⟨k_c94, List.forall_mem_cons.mpr ⟨k_c95, List.forall_mem_cons.mpr ⟨k_c96, List.forall_mem_cons.mpr ⟨k_c97, List.forall_mem_cons.mpr ⟨k_c98, List.forall_mem_cons.mpr ⟨k_c99, List.forall_mem_cons.mpr ⟨k_c100, List.forall_mem_cons.mpr ⟨k_c101, List.forall_mem_cons.mpr ⟨k_c102, List.forall_mem_cons.mpr ⟨k_c103, List.forall_mem_cons.mpr ⟨k_c104, List.forall_mem_cons.mpr ⟨k_c105, List.forall_mem_cons.mpr ⟨k_c106, List.forall_mem_cons.mpr ⟨k_c107, List.forall_mem_cons.mpr ⟨k_c108, List.forall_mem_cons.mpr ⟨k_c109, List.forall_mem_cons.mpr ⟨k_c110, List.forall_mem_cons.mpr ⟨k_c111, List.forall_mem_cons.mpr ⟨k_c112, List.forall_mem_cons.mpr ⟨k_c113, List.forall_mem_cons.mpr ⟨k_c114, List.forall_mem_cons.mpr ⟨k_c115, List.forall_mem_cons.mpr ⟨k_c116, List.forall_mem_cons.mpr ⟨k_c117, List.forall_mem_cons.mpr ⟨k_c118, List.forall_mem_cons.mpr ⟨k_c119, fun _ h => absurd h List.not_mem_nil⟩⟩⟩⟩⟩⟩⟩⟩⟩⟩⟩⟩⟩⟩⟩⟩⟩⟩⟩⟩⟩⟩⟩⟩⟩⟩⟩⟩⟩⟩⟩⟩⟩⟩⟩⟩⟩⟩⟩⟩⟩⟩⟩⟩⟩⟩⟩⟩⟩⟩⟩⟩⟩⟩⟩⟩⟩⟩⟩⟩
theorem k_c120 : k_ok (((10, 89), (0, 112, 1)), (1118, 1120, 44)) = true := by decide +kernel
theorem k_c121 : k_ok (((10, 93), (0, 113, 5)), (1122, 1124, 45)) = true := by decide +kernel
theorem k_c122 : k_ok (((11, 3), (4, 0, 0)), (255, 0, 0)) = true := by decide +kernel
theorem k_c123 : k_ok (((11, 28), (1, 43, 1)), (797, 798, 0)) = true := by decide +kernel
theorem k_c124 : k_ok (((11, 34), (0, 44, 3)), (800, 802, 8)) = true := by decide +kernel
theorem k_c125 : k_ok (((11, 38), (1, 46, 1)), (809, 810, 0)) = true := by decide +kernel
theorem k_c126 : k_ok (((11, 41), (0, 47, 3)), (812, 814, 10)) = true := by decide +kernel
theorem k_c127 : k_ok (((11, 44), (0, 45, 4)), (805, 807, 9)) = true := by decide +kernel
theorem k_c128 : k_ok (((11, 48), (5, 0, 2)), (804, 0, 0)) = true := by decide +kernel
theorem k_c129 : k_ok (((12, 3), (4, 0, 0)), (400, 0, 0)) = true := by decide +kernel
theorem k_c130 : k_ok (((12, 66), (0, 81, 1)), (988, 990, 28)) = true := by decide +kernel
theorem k_c131 : k_ok (((12, 70), (0, 82, 1)), (992, 994, 29)) = true := by decide +kernel
theorem k_c132 : k_ok (((12, 74), (0, 83, 1)), (997, 999, 30)) = true := by decide +kernel
theorem k_c133 : k_ok (((12, 77), (6, 0, 2)), (1001, 0, 0)) = true := by decide +kernel
theorem k_c134 : k_ok (((12, 83), (5, 0, 2)), (996, 0, 0)) = true := by decide +kernel
theorem k_c135 : k_ok (((12, 87), (1, 85, 4)), (1007, 1008, 0)) = true := by decide +kernel
theorem k_c136 : k_ok (((12, 93), (0, 87, 0)), (1013, 1015, 31)) = true := by decide +kernel
theorem k_c137 : k_ok (((12, 96), (0, 93, 2)), (1037, 1039, 36)) = true := by decide +kernel
theorem k_c138 : k_ok (((12, 100), (0, 90, 2)), (1025, 1027, 33)) = true := by decide +kernel
theorem k_c139 : k_ok (((12, 103), (0, 88, 2)), (1017, 1018, 1019)) = true := by decide +kernel
theorem k_c140 : k_ok (((12, 107), (0, 89, 2)), (1021, 1023, 32)) = true := by decide +kernel
theorem k_c141 : k_ok (((12, 111), (0, 91, 1)), (1029, 1031, 34)) = true := by decide +kernel
theorem k_c142 : k_ok (((12, 114), (0, 92, 1)), (1033, 1035, 35)) = true := by decide +kernel
theorem k_c143 : k_ok (((12, 120), (0, 94, 1)), (1041, 1043, 37)) = true := by decide +kernel
theorem k_c144 : k_ok (((12, 123), (1, 41, 2)), (1049, 791, 0)) = true := by decide +kernel
theorem k_c145 : k_ok (((12, 125), (0, 96, 2)), (1050, 1052, 39)) = true := by decide +kernel
theorem k_c146 : k_ok (((12, 128), (0, 95, 3)), (1045, 1047, 38)) = true := by decide +kernel
theorem k_c147 : k_ok (((12, 132), (0, 98, 3)), (1059, 1060, 1061)) = true := by decide +kernel
theorem k_c148 : k_ok (((0, 9), (2, 1, 0)), (125, 126, 0)) = true := by decide +kernel
theorem k_c149 : k_ok (((0, 12), (2, 132, 0)), (1201, 1202, 0)) = true := by decide +kernel
theorem k_c150 : k_ok (((0, 13), (0, 35, 5)), (766, 767, 768)) = true := by decide +kernel
theorem k_c151 : k_ok (((0, 17), (0, 210, 5)), (1720, 1721, 1722)) = true := by decide +kernel
theorem k_c152 : k_ok (((0, 18), (0, 37, 1)), (774, 775, 776)) = true := by decide +kernel
theorem k_c153 : k_ok (((0, 22), (0, 211, 1)), (1724, 1725, 1726)) = true := by decide +kernel
theorem k_c154 : k_ok (((0, 23), (0, 38, 0)), (778, 779, 780)) = true := by decide +kernel
theorem k_c155 : k_ok (((0, 27), (0, 133, 0)), (1408, 1409, 1410)) = true := by decide +kernel
theorem k_c156 : k_ok (((0, 28), (0, 68, 1)), (931, 932, 933)) = true := by decide +kernel
theorem k_c157 : k_ok (((0, 31), (0, 156, 1)), (1504, 1505, 1506)) = true := by decide +kernel
theorem k_c158 : k_ok (((0, 32), (0, 72, 1)), (951, 952, 953)) = true := by decide +kernel
theorem k_c159 : k_ok (((0, 35), (0, 155, 1)), (1500, 1501, 1502)) = true := by decide +kernel
theorem k_c160 : k_ok (((0, 36), (0, 73, 1)), (955, 956, 957)) = true := by decide +kernel
theorem k_c161 : k_ok (((0, 40), (0, 158, 1)), (1512, 1513, 1514)) = true := by decide +kernel
theorem k_c162 : k_ok (((0, 41), (0, 74, 1)), (959, 960, 961)) = true := by decide +kernel
theorem k_c163 : k_ok (((0, 44), (0, 159, 1)), (1516, 1517, 1518)) = true := by decide +kernel
theorem k_c164 : k_ok (((0, 45), (0, 76, 3)), (967, 968, 969)) = true := by decide +kernel
theorem k_c165 : k_ok (((0, 49), (0, 184, 3)), (1615, 1616, 1617)) = true := by decide +kernel
theorem k_c166 : k_ok (((0, 50), (0, 99, 3)), (1063, 1064, 1065)) = true := by decide +kernel
theorem k_c167 : k_ok (((0, 53), (0, 188, 3)), (1631, 1632, 1633)) = true := by decide +kernel
theorem k_c168 : k_ok (((0, 54), (0, 100, 0)), (1068, 1069, 1070)) = true := by decide +kernel
theorem k_c169 : k_ok (((0, 57), (0, 189, 0)), (1635, 1636, 1637)) = true := by decide +kernel
theorem k_c170 : k_ok (((0, 58), (0, 102, 1)), (1076, 1077, 1078)) = true := by decide +kernel
theorem k_c171 : k_ok (((0, 61), (0, 190, 1)), (1639, 1640, 1641)) = true := by decide +kernel
theorem k_c172 : k_ok (((0, 62), (0, 103, 1)), (1080, 1081, 1082)) = true := by decide +kernel
theorem k_c173 : k_ok (((0, 66), (0, 193, 1)), (1652, 1653, 1654)) = true := by decide +kernel
theorem k_c174 : k_ok (((0, 67), (0, 115, 2)), (1130, 1131, 1132)) = true := by decide +kernel
theorem k_c175 : k_ok (((0, 71), (0, 200, 2)), (1681, 1682, 1683)) = true := by decide +kernel
theorem k_c176 : k_ok (((0, 72), (0, 120, 2)), (1150, 1151, 1152)) = true := by decide +kernel
theorem k_c177 : k_ok (((0, 75), (0, 204, 2)), (1696, 1697, 1698)) = true := by decide +kernel
theorem k_c178 : k_ok (((0, 76), (0, 123, 2)), (1162, 1163, 1164)) = true := by decide +kernel
theorem k_c179 : k_ok (((0, 79), (0, 206, 2)), (1704, 1705, 1706)) = true := by decide +kernel
theorem k_a2 : ∀ e ∈ k_T2.zip k_P2, k_ok e = true := List.forall_mem_cons.mpr ⟨k_c120, List.forall_mem_cons.mpr ⟨k_c121, List.forall_mem_cons.mpr ⟨k_c122, List.forall_mem_cons.mpr ⟨k_c123, List.forall_mem_cons.mpr ⟨k_c124, List.forall_mem_cons.mpr ⟨k_c125, List.forall_mem_cons.mpr ⟨k_c126, List.forall_mem_cons.mpr ⟨k_c127, List.forall_mem_cons.mpr ⟨k_c128, List.forall_mem_cons.mpr ⟨k_c129, List.forall_mem_cons.mpr ⟨k_c130, List.forall_mem_cons.mpr ⟨k_c131, List.forall_mem_cons.mpr ⟨k_c132, List.forall_mem_cons.mpr ⟨k_c133, List.forall_mem_cons.mpr ⟨k_c134, List.forall_mem_cons.mpr ⟨k_c135, List.forall_mem_cons.mpr ⟨k_c136, List.forall_mem_cons.mpr ⟨k_c137, List.forall_mem_cons.mpr ⟨k_c138, List.forall_mem_cons.mpr ⟨k_c139, List.forall_mem_cons.mpr ⟨k_c140, List.forall_mem_cons.mpr ⟨k_c141, List.forall_mem_cons.mpr ⟨k_c142, List.forall_mem_cons.mpr ⟨k_c143, List.forall_mem_cons.mpr ⟨k_c144, List.forall_mem_cons.mpr ⟨k_c145, List.forall_mem_cons.mpr ⟨k_c146, List.forall_mem_cons.mpr ⟨k_c147, List.forall_mem_cons.mpr ⟨k_c148, List.forall_mem_cons.mpr ⟨k_c149, List.forall_mem_cons.mpr ⟨k_c150, List.forall_mem_cons.mpr ⟨k_c151, List.forall_mem_cons.mpr ⟨k_c152, List.forall_mem_cons.mpr ⟨k_c153, List.forall_mem_cons.mpr ⟨k_c154, List.forall_mem_cons.mpr ⟨k_c155, List.forall_mem_cons.mpr ⟨k_c156, List.forall_mem_cons.mpr ⟨k_c157, List.forall_mem_cons.mpr ⟨k_c158, List.forall_mem_cons.mpr ⟨k_c159, List.forall_mem_cons.mpr ⟨k_c160, List.forall_mem_cons.mpr ⟨k_c161, List.forall_mem_cons.mpr ⟨k_c162, List.forall_mem_cons.mpr ⟨k_c163, List.forall_mem_cons.mpr ⟨k_c164, List.forall_mem_cons.mpr ⟨k_c165, List.forall_mem_cons.mpr ⟨k_c166, List.forall_mem_cons.mpr ⟨k_c167, List.forall_mem_cons.mpr ⟨k_c168, List.forall_mem_cons.mpr ⟨k_c169, List.forall_mem_cons.mpr ⟨k_c170, List.forall_mem_cons.mpr ⟨k_c171, List.forall_mem_cons.mpr ⟨k_c172, List.forall_mem_cons.mpr ⟨k_c173, List.forall_mem_cons.mpr ⟨k_c174, List.forall_mem_cons.mpr ⟨k_c175, List.forall_mem_cons.mpr ⟨k_c176, List.forall_mem_cons.mpr ⟨k_c177, List.forall_mem_cons.mpr ⟨k_c178, List.forall_mem_cons.mpr ⟨k_c179, fun _ h => absurd h List.not_mem_nil⟩⟩⟩⟩⟩⟩⟩⟩⟩⟩⟩⟩⟩⟩⟩⟩⟩⟩⟩⟩⟩⟩⟩⟩⟩⟩⟩⟩⟩⟩⟩⟩⟩⟩⟩⟩⟩⟩⟩⟩⟩⟩⟩⟩⟩⟩⟩⟩⟩⟩⟩⟩⟩⟩⟩⟩⟩⟩⟩⟩
theorem k_c180 : k_ok (((0, 80), (0, 125, 1)), (1170, 1171, 1172)) = true := by decide +kernel
theorem k_c181 : k_ok (((0, 83), (0, 207, 1)), (1708, 1709, 1710)) = true := by decide +kernel
theorem k_c182 : k_ok (((0, 84), (0, 127, 1)), (1178, 1179, 1180)) = true := by decide +kernel
theorem k_c183 : k_ok (((0, 87), (0, 205, 1)), (1700, 1701, 1702)) = true := by decide +kernel
theorem k_c184 : k_ok (((0, 88), (0, 130, 2)), (1191, 1192, 1193)) = true := by decide +kernel
theorem k_c185 : k_ok (((0, 91), (0, 208, 2)), (1712, 1713, 1714)) = true := by decide +kernel
theorem k_c186 : k_ok (((0, 92), (0, 131, 1)), (1195, 1196, 1197)) = true := by decide +kernel
theorem k_c187 : k_ok (((0, 95), (0, 209, 1)), (1716, 1717, 1718)) = true := by decide +kernel
theorem k_c188 : k_ok (((13, 11), (1, 138, 1)), (1427, 1428, 0)) = true := by decide +kernel
theorem k_c189 : k_ok (((13, 27), (0, 136, 1)), (1420, 1422, 52)) = true := by decide +kernel
theorem k_c190 : k_ok (((13, 34), (1, 137, 1)), (1424, 1425, 0)) = true := by decide +kernel
theorem k_c191 : k_ok (((13, 41), (1, 139, 1)), (1430, 1431, 0)) = true := by decide +kernel
theorem k_c192 : k_ok (((13, 47), (0, 144, 2)), (1455, 1457, 57)) = true := by decide +kernel
theorem k_c193 : k_ok (((13, 51), (4, 0, 0)), (1204, 0, 0)) = true := by decide +kernel
theorem k_c194 : k_ok (((13, 199), (0, 135, 0)), (1416, 1418, 51)) = true := by decide +kernel
theorem k_c195 : k_ok (((13, 202), (0, 140, 0)), (1433, 1435, 53)) = true := by decide +kernel
theorem k_c196 : k_ok (((13, 206), (0, 143, 0)), (1451, 1453, 56)) = true := by decide +kernel
theorem k_c197 : k_ok (((13, 209), (1, 150, 1)), (1478, 1479, 0)) = true := by decide +kernel
theorem k_c198 : k_ok (((13, 212), (0, 134, 0)), (1412, 1414, 50)) = true := by decide +kernel
theorem k_c199 : k_ok (((13, 221), (0, 141, 0)), (1437, 1439, 54)) = true := by decide +kernel
theorem k_c200 : k_ok (((13, 245), (0, 142, 1)), (1442, 1444, 55)) = true := by decide +kernel
theorem k_c201 : k_ok (((13, 259), (0, 145, 0)), (1459, 1461, 58)) = true := by decide +kernel
theorem k_c202 : k_ok (((13, 262), (0, 151, 0)), (1484, 1486, 62)) = true := by decide +kernel
theorem k_c203 : k_ok (((13, 265), (0, 152, 0)), (1488, 1490, 63)) = true := by decide +kernel
theorem k_c204 : k_ok (((13, 268), (0, 153, 1)), (1492, 1494, 64)) = true := by decide +kernel
theorem k_c205 : k_ok (((13, 272), (0, 154, 0)), (1496, 1498, 65)) = true := by decide +kernel
theorem k_c206 : k_ok (((13, 275), (0, 146, 0)), (1463, 1465, 59)) = true := by decide +kernel
theorem k_c207 : k_ok (((13, 278), (0, 147, 2)), (1467, 1469, 60)) = true := by decide +kernel
theorem k_c208 : k_ok (((13, 282), (0, 148, 1)), (1471, 1473, 61)) = true := by decide +kernel
theorem k_c209 : k_ok (((13, 285), (1, 149, 6)), (1475, 1476, 0)) = true := by decide +kernel
theorem k_c210 : k_ok (((13, 294), (0, 157, 0)), (1508, 1510, 66)) = true := by decide +kernel
theorem k_c211 : k_ok (((13, 301), (1, 168, 1)), (1552, 1553, 0)) = true := by decide +kernel
theorem k_c212 : k_ok (((13, 304), (0, 165, 1)), (1540, 1542, 72)) = true := by decide +kernel
theorem k_c213 : k_ok (((13, 307), (0, 166, 4)), (1544, 1546, 73)) = true := by decide +kernel
theorem k_c214 : k_ok (((13, 311), (0, 167, 2)), (1548, 1550, 74)) = true := by decide +kernel
theorem k_c215 : k_ok (((13, 314), (0, 170, 2)), (1559, 1561, 76)) = true := by decide +kernel
theorem k_c216 : k_ok (((13, 318), (0, 163, 1)), (1532, 1534, 70)) = true := by decide +kernel
theorem k_c217 : k_ok (((13, 321), (0, 164, 2)), (1536, 1538, 71)) = true := by decide +kernel
theorem k_c218 : k_ok (((13, 324), (0, 169, 1)), (1555, 1557, 75)) = true := by decide +kernel
theorem k_c219 : k_ok (((13, 327), (0, 171, 5)), (1563, 1565, 77)) = true := by decide +kernel
theorem k_c220 : k_ok (((13, 331), (0, 172, 2)), (1567, 1569, 78)) = true := by decide +kernel
theorem k_c221 : k_ok (((13, 334), (0, 173, 2)), (1571, 1573, 79)) = true := by decide +kernel
theorem k_c222 : k_ok (((13, 341), (0, 162, 1)), (1528, 1530, 69)) = true := by decide +kernel
theorem k_c223 : k_ok (((13, 345), (0, 174, 0)), (1575, 1577, 80)) = true := by decide +kernel
theorem k_c224 : k_ok (((13, 351), (0, 175, 0)), (1579, 1581, 81)) = true := by decide +kernel
theorem k_c225 : k_ok (((13, 354), (0, 176, 2)), (1584, 1586, 82)) = true := by decide +kernel
theorem k_c226 : k_ok (((13, 358), (0, 177, 2)), (1588, 1590, 83)) = true := by decide +kernel
theorem k_c227 : k_ok (((13, 361), (0, 182, 2)), (1607, 1609, 87)) = true := by decide +kernel
theorem k_c228 : k_ok (((13, 367), (1, 180, 3)), (1600, 1601, 0)) = true := by decide +kernel
theorem k_c229 : k_ok (((13, 371), (0, 179, 1)), (1596, 1598, 85)) = true := by decide +kernel
theorem k_c230 : k_ok (((13, 374), (0, 181, 2)), (1603, 1605, 86)) = true := by decide +kernel
theorem k_c231 : k_ok (((13, 377), (0, 178, 3)), (1592, 1594, 84)) = true := by decide +kernel
theorem k_c232 : k_ok (((13, 380), (0, 183, 3)), (1611, 1613, 88)) = true := by decide +kernel
theorem k_c233 : k_ok (((13, 383), (0, 160, 1)), (1520, 1522, 67)) = true := by decide +kernel
theorem k_c234 : k_ok (((13, 386), (0, 161, 0)), (1524, 1526, 68)) = true := by decide +kernel
theorem k_c235 : k_ok (((13, 389), (0, 185, 2)), (1619, 1621, 89)) = true := by decide +kernel
theorem k_c236 : k_ok (((13, 392), (0, 186, 2)), (1623, 1625, 90)) = true := by decide +kernel
theorem k_c237 : k_ok (((13, 395), (0, 187, 2)), (1627, 1629, 91)) = true := by decide +kernel
theorem k_c238 : k_ok (((13, 398), (0, 192, 4)), (1648, 1650, 93)) = true := by decide +kernel
theorem k_c239 : k_ok (((13, 402), (0, 189, 0)), (1643, 1636, 1637)) = true := by decide +kernel
theorem k_a3 : ∀ e ∈ k_T3.zip k_P3, k_ok e = true := List.forall_mem_cons.mpr ⟨k_c180, List.forall_mem_cons.mpr ⟨k_c181, List.forall_mem_cons.mpr ⟨k_c182, List.forall_mem_cons.mpr ⟨k_c183, List.forall_mem_cons.mpr ⟨k_c184, List.forall_mem_cons.mpr ⟨k_c185, List.forall_mem_cons.mpr ⟨k_c186, List.forall_mem_cons.mpr ⟨k_c187, List.forall_mem_cons.mpr ⟨k_c188, List.forall_mem_cons.mpr ⟨k_c189, List.forall_mem_cons.mpr ⟨k_c190, List.forall_mem_cons.mpr ⟨k_c191, List.forall_mem_cons.mpr ⟨k_c192, List.forall_mem_cons.mpr ⟨k_c193, List.forall_mem_cons.mpr ⟨k_c194, List.forall_mem_cons.mpr ⟨k_c195, List.forall_mem_cons.mpr ⟨k_c196, List.forall_mem_cons.mpr ⟨k_c197, List.forall_mem_cons.mpr ⟨k_c198, List.forall_mem_cons.mpr ⟨k_c199, List.forall_mem_cons.mpr ⟨k_c200, List.forall_mem_cons.mpr ⟨k_c201, List.forall_mem_cons.mpr ⟨k_c202, List.forall_mem_cons.mpr ⟨k_c203, List.forall_mem_cons.mpr ⟨k_c204, List.forall_mem_cons.mpr ⟨k_c205, List.forall_mem_cons.mpr ⟨k_c206, List.forall_mem_cons.mpr ⟨k_c207, List.forall_mem_cons.mpr ⟨k_c208, List.forall_mem_cons.mpr ⟨k_c209, List.forall_mem_cons.mpr ⟨k_c210, List.forall_mem_cons.mpr ⟨k_c211, List.forall_mem_cons.mpr ⟨k_c212, List.forall_mem_cons.mpr ⟨k_c213, List.forall_mem_cons.mpr ⟨k_c214, List.forall_mem_cons.mpr ⟨k_c215, List.forall_mem_cons.mpr ⟨k_c216, List.forall_mem_cons.mpr ⟨k_c217, List.forall_mem_cons.mpr ⟨k_c218, List.forall_mem_cons.mpr ⟨k_c219, List.forall_mem_cons.mpr ⟨k_c220, List.forall_mem_cons.mpr ⟨k_c221, List.forall_mem_cons.mpr ⟨k_c222, List.forall_mem_cons.mpr ⟨k_c223, List.forall_mem_cons.mpr ⟨k_c224, List.forall_mem_cons.mpr ⟨k_c225, List.forall_mem_cons.mpr ⟨k_c226, List.forall_mem_cons.mpr ⟨k_c227, List.forall_mem_cons.mpr ⟨k_c228, List.forall_mem_cons.mpr ⟨k_c229, List.forall_mem_cons.mpr ⟨k_c230, List.forall_mem_cons.mpr ⟨k_c231, List.forall_mem_cons.mpr ⟨k_c232, List.forall_mem_cons.mpr ⟨k_c233, List.forall_mem_cons.mpr ⟨k_c234, List.forall_mem_cons.mpr ⟨k_c235, List.forall_mem_cons.mpr ⟨k_c236, List.forall_mem_cons.mpr ⟨k_c237, List.forall_mem_cons.mpr ⟨k_c238, List.forall_mem_cons.mpr ⟨k_c239, fun _ h => absurd h List.not_mem_nil⟩⟩⟩⟩⟩⟩⟩⟩⟩⟩⟩⟩⟩⟩⟩⟩⟩⟩⟩⟩⟩⟩⟩⟩⟩⟩⟩⟩⟩⟩⟩⟩⟩⟩⟩⟩⟩⟩⟩⟩⟩⟩⟩⟩⟩⟩⟩⟩⟩⟩⟩⟩⟩⟩⟩⟩⟩⟩⟩⟩
theorem k_c240 : k_ok (((13, 405), (0, 191, 0)), (1644, 1646, 92)) = true := by decide +kernel
theorem k_c241 : k_ok (((13, 408), (1, 195, 4)), (1661, 1662, 0)) = true := by decide +kernel
theorem k_c242 : k_ok (((13, 412), (0, 197, 3)), (1669, 1671, 96)) = true := by decide +kernel
theorem k_c243 : k_ok (((13, 417), (0, 194, 1)), (1657, 1659, 94)) = true := by decide +kernel
theorem k_c244 : k_ok (((13, 420), (0, 196, 2)), (1665, 1667, 95)) = true := by decide +kernel
theorem k_c245 : k_ok (((13, 423), (0, 198, 4)), (1673, 1675, 97)) = true := by decide +kernel
theorem k_c246 : k_ok (((13, 426), (0, 199, 5)), (1677, 1679, 98)) = true := by decide +kernel
theorem k_c247 : k_ok (((13, 430), (0, 203, 2)), (1692, 1694, 100)) = true := by decide +kernel
theorem k_c248 : k_ok (((13, 433), (1, 201, 1)), (1685, 1686, 0)) = true := by decide +kernel
theorem k_c249 : k_ok (((13, 436), (0, 202, 2)), (1688, 1690, 99)) = true := by decide +kernel
theorem k_c250 : k_ok (((15, 335), (0, 213, 0)), (657, 658, 659)) = true := by decide +kernel
theorem k_c251 : k_ok (((15, 492), (0, 214, 0)), (647, 648, 649)) = true := by decide +kernel
theorem k_c252 : k_ok (((15, 495), (1, 217, 2)), (834, 835, 0)) = true := by decide +kernel
theorem k_c253 : k_ok (((15, 505), (0, 212, 0)), (653, 654, 655)) = true := by decide +kernel
theorem k_c254 : k_ok (((15, 633), (0, 220, 2)), (643, 644, 645)) = true := by decide +kernel
theorem k_c255 : k_ok (((15, 637), (1, 221, 4)), (661, 662, 0)) = true := by decide +kernel
theorem k_c256 : k_ok (((15, 1059), (1, 218, 3)), (840, 841, 0)) = true := by decide +kernel
theorem k_c257 : k_ok (((16, 9), (1, 216, 2)), (837, 838, 0)) = true := by decide +kernel
theorem k_c258 : k_ok (((16, 38), (5, 0, 2)), (668, 0, 0)) = true := by decide +kernel
theorem k_c259 : k_ok (((16, 88), (1, 222, 1)), (664, 665, 0)) = true := by decide +kernel
theorem k_c260 : k_ok (((16, 92), (6, 0, 2)), (667, 0, 0)) = true := by decide +kernel
theorem k_c261 : k_ok (((16, 95), (1, 223, 4)), (671, 672, 0)) = true := by decide +kernel
theorem k_c262 : k_ok (((14, 13), (1, 86, 3)), (1010, 1011, 0)) = true := by decide +kernel
theorem k_a4 : ∀ e ∈ k_T4.zip k_P4, k_ok e = true := List.forall_mem_cons.mpr ⟨k_c240, List.forall_mem_cons.mpr ⟨k_c241, List.forall_mem_cons.mpr ⟨k_c242, List.forall_mem_cons.mpr ⟨k_c243, List.forall_mem_cons.mpr ⟨k_c244, List.forall_mem_cons.mpr ⟨k_c245, List.forall_mem_cons.mpr ⟨k_c246, List.forall_mem_cons.mpr ⟨k_c247, List.forall_mem_cons.mpr ⟨k_c248, List.forall_mem_cons.mpr ⟨k_c249, List.forall_mem_cons.mpr ⟨k_c250, List.forall_mem_cons.mpr ⟨k_c251, List.forall_mem_cons.mpr ⟨k_c252, List.forall_mem_cons.mpr ⟨k_c253, List.forall_mem_cons.mpr ⟨k_c254, List.forall_mem_cons.mpr ⟨k_c255, List.forall_mem_cons.mpr ⟨k_c256, List.forall_mem_cons.mpr ⟨k_c257, List.forall_mem_cons.mpr ⟨k_c258, List.forall_mem_cons.mpr ⟨k_c259, List.forall_mem_cons.mpr ⟨k_c260, List.forall_mem_cons.mpr ⟨k_c261, List.forall_mem_cons.mpr ⟨k_c262, fun _ h => absurd h List.not_mem_nil⟩⟩⟩⟩⟩⟩⟩⟩⟩⟩⟩⟩⟩⟩⟩⟩⟩⟩⟩⟩⟩⟩⟩
theorem k_all : ∀ e ∈ k_T.zip k_P, k_ok e = true := by
  intro e he
  have h : k_T.zip k_P = k_T0.zip k_P0 ++ (k_T1.zip k_P1 ++ (k_T2.zip k_P2 ++ (k_T3.zip k_P3 ++ (k_T4.zip k_P4)))) := by decide +kernel
  rw [h] at he
  rcases List.mem_append.mp he with he | he
  · exact k_a0 e he
  rcases List.mem_append.mp he with he | he
  · exact k_a1 e he
  rcases List.mem_append.mp he with he | he
  · exact k_a2 e he
  rcases List.mem_append.mp he with he | he
  · exact k_a3 e he
  exact k_a4 e he
theorem k_len : k_T.length = k_P.length := by decide +kernel
theorem k_is {e : (Nat × Nat) × AR} (h : e ∈ k_T) : ∃ q, k_ok (e, q) = true := by
  obtain ⟨j, hj, he⟩ := List.getElem_of_mem h
  have hj2 : j < k_P.length := by rw [← k_len]; exact hj
  refine ⟨k_P[j], k_all _ ?_⟩
  have hz : (k_T.zip k_P)[j]? = some (e, k_P[j]) := by
    rw [List.getElem?_zip_eq_some]
    exact ⟨by rw [List.getElem?_eq_getElem hj, he], List.getElem?_eq_getElem hj2⟩
  exact List.mem_of_getElem? hz
def f_ok (e : (Nat × Nat) × AR) : Bool := match e with
  | ((o, i), (ci, k, p)) => match c_R[ci]? with
    | some (C, T, N, _) => decide (k < N) && at_p p (.fieldLink (o_N.getD o "") i (T k).1 (T k).2.1 (T k).2.2.1)
    | none => false
theorem f_all : f_T.all f_ok = true := by decide +kernel
def g_ok (e : (Nat × Nat) × AR) : Bool := match e with
  | ((o, i), (k, _, p)) => match k with
    | 0 => at_p p (.fieldLink (o_N.getD o "") i "java/lang/String" "value" "[B")
    | 1 => at_p p (.fieldLink (o_N.getD o "") i "java/lang/String" "coder" "B")
    | 2 => at_p p (.fieldLink (o_N.getD o "") i "java/lang/String" "COMPACT_STRINGS" "Z")
    | 3 => at_p p (.fieldLink (o_N.getD o "") i "jdk/internal/util/Preconditions" "SIOOBE_FORMATTER" "Ljava/util/function/BiFunction;")
    | _ => false
theorem g_all : g_T.all g_ok = true := by decide +kernel
def n_ok (e : (Nat × Nat) × AR) : Bool := match e with
  | ((o, i), (ci, n, p)) => match c_R[ci]? with
    | some (C, _, N, _) => decide (n = N) && at_p p (.classLink (o_N.getD o "") i C)
    | none => false
theorem n_all : n_T.all n_ok = true := by decide +kernel
def d_ok (e : (Nat × Nat) × AR) : Bool := match e with
  | ((o, i), (k, v, p)) => if k = 0 then at_p p (.constant (o_N.getD o "") i (i_V.getD v 0)) else (match s_V[v]? with
    | some (c, j, _) => decide (c = o_N.getD o "" ∧ j = i ∧ v < 9)
    | none => false)
theorem d_all : d_T.all d_ok = true := by decide +kernel
def l_ok (e : (Nat × Nat) × AR) : Bool := match e with
  | ((o, i), (_, v, p)) => at_p p (.constantLong (o_N.getD o "") i (l_V.getD v 0))
theorem l_all : l_T.all l_ok = true := by decide +kernel
theorem a_cls_R : a_cls = c_R.map (fun r => (r.1, r.2.1, r.2.2.1)) := rfl
theorem c_w0 : ∀ w ∈ u_ws "MarkBench$Book" T_0 16, w ∈ t_b := by
  have h : (List.range 16).all (fun k => at_p ([216, 218, 220, 222, 224, 226, 228, 230, 232, 234, 236, 238, 240, 242, 244, 246].getD k 0) (u_lay "MarkBench$Book" T_0 k)) = true := by decide +kernel
  intro w hw
  obtain ⟨k, hk, rfl⟩ := List.mem_map.mp hw
  exact at_p_in (List.all_eq_true.mp h k hk)
theorem c_n0 : ∀ a, a < 16 → ∀ b, b < 16 → a ≠ b → (T_0 a).2.1 ≠ (T_0 b).2.1 := by decide +kernel
theorem c_t0 : ∀ k, k < 16 → parseFieldDescriptor (T_0 k).2.2.1 = some (ty_0 k) := by decide +kernel
theorem c_i0 : .instantiable "MarkBench$Book" 16 ∈ t_b := at_p_in (k := 138) (by decide +kernel)
theorem c_z0 : .initialized "MarkBench$Book" ∈ t_b := at_p_in (k := 104) (by decide +kernel)
theorem c_w1 : ∀ w ∈ u_ws "MarkBench$BookReader" T_1 10, w ∈ t_b := by
  have h : (List.range 10).all (fun k => at_p ([290, 292, 294, 296, 298, 300, 302, 304, 306, 308].getD k 0) (u_lay "MarkBench$BookReader" T_1 k)) = true := by decide +kernel
  intro w hw
  obtain ⟨k, hk, rfl⟩ := List.mem_map.mp hw
  exact at_p_in (List.all_eq_true.mp h k hk)
theorem c_n1 : ∀ a, a < 10 → ∀ b, b < 10 → a ≠ b → (T_1 a).2.1 ≠ (T_1 b).2.1 := by decide +kernel
theorem c_t1 : ∀ k, k < 10 → parseFieldDescriptor (T_1 k).2.2.1 = some (ty_1 k) := by decide +kernel
theorem c_i1 : .instantiable "MarkBench$BookReader" 10 ∈ t_b := at_p_in (k := 132) (by decide +kernel)
theorem c_z1 : .initialized "MarkBench$BookReader" ∈ t_b := at_p_in (k := 103) (by decide +kernel)
theorem c_w2 : ∀ w ∈ u_ws "MarkBench$Choices" T_2 9, w ∈ t_b := by
  have h : (List.range 9).all (fun k => at_p ([370, 372, 374, 376, 378, 380, 382, 384, 386].getD k 0) (u_lay "MarkBench$Choices" T_2 k)) = true := by decide +kernel
  intro w hw
  obtain ⟨k, hk, rfl⟩ := List.mem_map.mp hw
  exact at_p_in (List.all_eq_true.mp h k hk)
theorem c_n2 : ∀ a, a < 9 → ∀ b, b < 9 → a ≠ b → (T_2 a).2.1 ≠ (T_2 b).2.1 := by decide +kernel
theorem c_t2 : ∀ k, k < 9 → parseFieldDescriptor (T_2 k).2.2.1 = some (ty_2 k) := by decide +kernel
theorem c_i2 : .instantiable "MarkBench$Choices" 9 ∈ t_b := at_p_in (k := 334) (by decide +kernel)
theorem c_z2 : .initialized "MarkBench$Choices" ∈ t_b := at_p_in (k := 108) (by decide +kernel)
theorem c_w3 : ∀ w ∈ u_ws "MarkBench$Forms" T_3 3, w ∈ t_b := by
  have h : (List.range 3).all (fun k => at_p ([159, 161, 163].getD k 0) (u_lay "MarkBench$Forms" T_3 k)) = true := by decide +kernel
  intro w hw
  obtain ⟨k, hk, rfl⟩ := List.mem_map.mp hw
  exact at_p_in (List.all_eq_true.mp h k hk)
theorem c_n3 : ∀ a, a < 3 → ∀ b, b < 3 → a ≠ b → (T_3 a).2.1 ≠ (T_3 b).2.1 := by decide +kernel
theorem c_t3 : ∀ k, k < 3 → parseFieldDescriptor (T_3 k).2.2.1 = some (ty_3 k) := by decide +kernel
theorem c_i3 : .instantiable "MarkBench$Forms" 3 ∈ t_b := at_p_in (k := 144) (by decide +kernel)
theorem c_z3 : .initialized "MarkBench$Forms" ∈ t_b := at_p_in (k := 105) (by decide +kernel)
theorem c_w4 : ∀ w ∈ u_ws "MarkBench$Hands" T_4 4, w ∈ t_b := by
  have h : (List.range 4).all (fun k => at_p ([324, 326, 328, 330].getD k 0) (u_lay "MarkBench$Hands" T_4 k)) = true := by decide +kernel
  intro w hw
  obtain ⟨k, hk, rfl⟩ := List.mem_map.mp hw
  exact at_p_in (List.all_eq_true.mp h k hk)
theorem c_n4 : ∀ a, a < 4 → ∀ b, b < 4 → a ≠ b → (T_4 a).2.1 ≠ (T_4 b).2.1 := by decide +kernel
theorem c_t4 : ∀ k, k < 4 → parseFieldDescriptor (T_4 k).2.2.1 = some (ty_4 k) := by decide +kernel
theorem c_i4 : .instantiable "MarkBench$Hands" 4 ∈ t_b := at_p_in (k := 312) (by decide +kernel)
theorem c_z4 : .initialized "MarkBench$Hands" ∈ t_b := at_p_in (k := 107) (by decide +kernel)
theorem c_w5 : ∀ w ∈ u_ws "MarkBench$Line" T_5 7, w ∈ t_b := by
  have h : (List.range 7).all (fun k => at_p ([531, 533, 535, 537, 539, 541, 543].getD k 0) (u_lay "MarkBench$Line" T_5 k)) = true := by decide +kernel
  intro w hw
  obtain ⟨k, hk, rfl⟩ := List.mem_map.mp hw
  exact at_p_in (List.all_eq_true.mp h k hk)
theorem c_n5 : ∀ a, a < 7 → ∀ b, b < 7 → a ≠ b → (T_5 a).2.1 ≠ (T_5 b).2.1 := by decide +kernel
theorem c_t5 : ∀ k, k < 7 → parseFieldDescriptor (T_5 k).2.2.1 = some (ty_5 k) := by decide +kernel
theorem c_i5 : .instantiable "MarkBench$Line" 7 ∈ t_b := at_p_in (k := 509) (by decide +kernel)
theorem c_z5 : .initialized "MarkBench$Line" ∈ t_b := at_p_in (k := 112) (by decide +kernel)
theorem c_w6 : ∀ w ∈ u_ws "MarkBench$Sheet" T_6 12, w ∈ t_b := by
  have h : (List.range 12).all (fun k => at_p ([481, 483, 485, 487, 489, 491, 493, 495, 497, 499, 501, 503].getD k 0) (u_lay "MarkBench$Sheet" T_6 k)) = true := by decide +kernel
  intro w hw
  obtain ⟨k, hk, rfl⟩ := List.mem_map.mp hw
  exact at_p_in (List.all_eq_true.mp h k hk)
theorem c_n6 : ∀ a, a < 12 → ∀ b, b < 12 → a ≠ b → (T_6 a).2.1 ≠ (T_6 b).2.1 := by decide +kernel
theorem c_t6 : ∀ k, k < 12 → parseFieldDescriptor (T_6 k).2.2.1 = some (ty_6 k) := by decide +kernel
theorem c_i6 : .instantiable "MarkBench$Sheet" 12 ∈ t_b := at_p_in (k := 390) (by decide +kernel)
theorem c_z6 : .initialized "MarkBench$Sheet" ∈ t_b := at_p_in (k := 109) (by decide +kernel)
theorem c_w7 : ∀ w ∈ u_ws "MarkBench$Tally" T_7 5, w ∈ t_b := by
  have h : (List.range 5).all (fun k => at_p ([455, 457, 459, 461, 463].getD k 0) (u_lay "MarkBench$Tally" T_7 k)) = true := by decide +kernel
  intro w hw
  obtain ⟨k, hk, rfl⟩ := List.mem_map.mp hw
  exact at_p_in (List.all_eq_true.mp h k hk)
theorem c_n7 : ∀ a, a < 5 → ∀ b, b < 5 → a ≠ b → (T_7 a).2.1 ≠ (T_7 b).2.1 := by decide +kernel
theorem c_t7 : ∀ k, k < 5 → parseFieldDescriptor (T_7 k).2.2.1 = some (ty_7 k) := by decide +kernel
theorem c_i7 : .instantiable "MarkBench$Tally" 5 ∈ t_b := at_p_in (k := 444) (by decide +kernel)
theorem c_z7 : .initialized "MarkBench$Tally" ∈ t_b := at_p_in (k := 111) (by decide +kernel)
theorem c_w8 : ∀ w ∈ u_ws "MarkBench$Tokens" T_8 5, w ∈ t_b := by
  have h : (List.range 5).all (fun k => at_p ([266, 268, 270, 272, 274].getD k 0) (u_lay "MarkBench$Tokens" T_8 k)) = true := by decide +kernel
  intro w hw
  obtain ⟨k, hk, rfl⟩ := List.mem_map.mp hw
  exact at_p_in (List.all_eq_true.mp h k hk)
theorem c_n8 : ∀ a, a < 5 → ∀ b, b < 5 → a ≠ b → (T_8 a).2.1 ≠ (T_8 b).2.1 := by decide +kernel
theorem c_t8 : ∀ k, k < 5 → parseFieldDescriptor (T_8 k).2.2.1 = some (ty_8 k) := by decide +kernel
theorem c_i8 : .instantiable "MarkBench$Tokens" 5 ∈ t_b := at_p_in (k := 251) (by decide +kernel)
theorem c_z8 : .initialized "MarkBench$Tokens" ∈ t_b := at_p_in (k := 106) (by decide +kernel)
theorem c_w9 : ∀ w ∈ u_ws "MarkBench$Walk" T_9 12, w ∈ t_b := by
  have h : (List.range 12).all (fun k => at_p ([418, 420, 422, 424, 426, 428, 430, 432, 434, 436, 438, 440].getD k 0) (u_lay "MarkBench$Walk" T_9 k)) = true := by decide +kernel
  intro w hw
  obtain ⟨k, hk, rfl⟩ := List.mem_map.mp hw
  exact at_p_in (List.all_eq_true.mp h k hk)
theorem c_n9 : ∀ a, a < 12 → ∀ b, b < 12 → a ≠ b → (T_9 a).2.1 ≠ (T_9 b).2.1 := by decide +kernel
theorem c_t9 : ∀ k, k < 12 → parseFieldDescriptor (T_9 k).2.2.1 = some (ty_9 k) := by decide +kernel
theorem c_i9 : .instantiable "MarkBench$Walk" 12 ∈ t_b := at_p_in (k := 396) (by decide +kernel)
theorem c_z9 : .initialized "MarkBench$Walk" ∈ t_b := at_p_in (k := 110) (by decide +kernel)
theorem c_w10 : ∀ w ∈ u_ws "MarkBench" T_10 12, w ∈ t_b := by
  have h : (List.range 12).all (fun k => at_p ([740, 742, 744, 746, 748, 750, 752, 754, 756, 758, 760, 762].getD k 0) (u_lay "MarkBench" T_10 k)) = true := by decide +kernel
  intro w hw
  obtain ⟨k, hk, rfl⟩ := List.mem_map.mp hw
  exact at_p_in (List.all_eq_true.mp h k hk)
theorem c_n10 : ∀ a, a < 12 → ∀ b, b < 12 → a ≠ b → (T_10 a).2.1 ≠ (T_10 b).2.1 := by decide +kernel
theorem c_t10 : ∀ k, k < 12 → parseFieldDescriptor (T_10 k).2.2.1 = some (ty_10 k) := by decide +kernel
theorem c_i10 : .instantiable "MarkBench" 12 ∈ t_b := at_p_in (k := 124) (by decide +kernel)
theorem c_z10 : .initialized "MarkBench" ∈ t_b := at_p_in (k := 102) (by decide +kernel)
theorem c_w11 : ∀ w ∈ u_ws "MarkBenchModel" T_11 67, w ∈ t_b := by
  have h : (List.range 67).all (fun k => at_p ([1273, 1275, 1277, 1279, 1281, 1283, 1285, 1287, 1289, 1291, 1293, 1295, 1297, 1299, 1301, 1303, 1305, 1307, 1309, 1311, 1313, 1315, 1317, 1319, 1321, 1323, 1325, 1327, 1329, 1331, 1333, 1335, 1337, 1339, 1341, 1343, 1345, 1347, 1349, 1351, 1353, 1355, 1357, 1359, 1361, 1363, 1365, 1367, 1369, 1371, 1373, 1375, 1377, 1379, 1381, 1383, 1385, 1387, 1389, 1391, 1393, 1395, 1397, 1399, 1401, 1403, 1405].getD k 0) (u_lay "MarkBenchModel" T_11 k)) = true := by decide +kernel
  intro w hw
  obtain ⟨k, hk, rfl⟩ := List.mem_map.mp hw
  exact at_p_in (List.all_eq_true.mp h k hk)
theorem c_n11 : ∀ a, a < 67 → ∀ b, b < 67 → a ≠ b → (T_11 a).2.1 ≠ (T_11 b).2.1 := by decide +kernel
theorem c_t11 : ∀ k, k < 67 → parseFieldDescriptor (T_11 k).2.2.1 = some (ty_11 k) := by decide +kernel
theorem c_i11 : .instantiable "MarkBenchModel" 67 ∈ t_b := at_p_in (k := 1200) (by decide +kernel)
theorem c_z11 : .initialized "MarkBenchModel" ∈ t_b := at_p_in (k := 121) (by decide +kernel)
def c_Ok (r : String × u_T × Nat × (Nat → FieldType)) : Prop := (∀ w ∈ u_ws r.1 r.2.1 r.2.2.1, w ∈ t_b) ∧ (∀ a, a < r.2.2.1 → ∀ b, b < r.2.2.1 → a ≠ b → (r.2.1 a).2.1 ≠ (r.2.1 b).2.1) ∧ (∀ k, k < r.2.2.1 → parseFieldDescriptor (r.2.1 k).2.2.1 = some (r.2.2.2 k)) ∧ .instantiable r.1 r.2.2.1 ∈ t_b ∧ .initialized r.1 ∈ t_b
theorem c_all : ∀ r ∈ c_R, c_Ok r := List.forall_mem_cons.mpr ⟨⟨c_w0, c_n0, c_t0, c_i0, c_z0⟩, List.forall_mem_cons.mpr ⟨⟨c_w1, c_n1, c_t1, c_i1, c_z1⟩, List.forall_mem_cons.mpr ⟨⟨c_w2, c_n2, c_t2, c_i2, c_z2⟩, List.forall_mem_cons.mpr ⟨⟨c_w3, c_n3, c_t3, c_i3, c_z3⟩, List.forall_mem_cons.mpr ⟨⟨c_w4, c_n4, c_t4, c_i4, c_z4⟩, List.forall_mem_cons.mpr ⟨⟨c_w5, c_n5, c_t5, c_i5, c_z5⟩, List.forall_mem_cons.mpr ⟨⟨c_w6, c_n6, c_t6, c_i6, c_z6⟩, List.forall_mem_cons.mpr ⟨⟨c_w7, c_n7, c_t7, c_i7, c_z7⟩, List.forall_mem_cons.mpr ⟨⟨c_w8, c_n8, c_t8, c_i8, c_z8⟩, List.forall_mem_cons.mpr ⟨⟨c_w9, c_n9, c_t9, c_i9, c_z9⟩, List.forall_mem_cons.mpr ⟨⟨c_w10, c_n10, c_t10, c_i10, c_z10⟩, List.forall_mem_cons.mpr ⟨⟨c_w11, c_n11, c_t11, c_i11, c_z11⟩, fun _ h => absurd h List.not_mem_nil⟩⟩⟩⟩⟩⟩⟩⟩⟩⟩⟩⟩
theorem o_1 : .instanceMethod Lib.objectInit ∈ t_b := at_p_in (k := 129) (by decide +kernel)
theorem o_2 : .code Lib.objectInit ⟨#[0xb1]⟩ 1 none ∈ t_b := at_p_in (k := 130) (by decide +kernel)
theorem o_min1 : .static Lib.Math.min.name ∈ t_b := at_p_in (k := 669) (by decide +kernel)
theorem o_min2 : .code Lib.Math.min.name Lib.Math.min.code 2 (some .int) ∈ t_b := at_p_in (k := 670) (by decide +kernel)
theorem o_max1 : .static Lib.Math.max.name ∈ t_b := at_p_in (k := 571) (by decide +kernel)
theorem o_max2 : .code Lib.Math.max.name Lib.Math.max.code 2 (some .int) ∈ t_b := at_p_in (k := 572) (by decide +kernel)
theorem o_m : .initialized "java/lang/Math" ∈ t_b := at_p_in (k := 113) (by decide +kernel)
theorem o_s : .initialized "java/lang/System" ∈ t_b := at_p_in (k := 114) (by decide +kernel)
theorem o_a1 : .native arraycopyName ∈ t_b := at_p_in (k := 583) (by decide +kernel)
theorem o_a2 : .static arraycopyName ∈ t_b := at_p_in (k := 582) (by decide +kernel)
theorem o_z1 : .laysStatic "java/lang/String" "COMPACT_STRINGS" "Z" ∈ lw_tbl := List.mem_of_getElem? (i := 652) (by decide +kernel)
theorem o_z2 : .laysStatic "jdk/internal/util/Preconditions" "SIOOBE_FORMATTER" "Ljava/util/function/BiFunction;" ∈ lw_tbl := List.mem_of_getElem? (i := 693) (by decide +kernel)
theorem o_tint : .arrayClass .int ∈ t_b := at_p_in (k := 167) (by decide +kernel)
theorem o_tbyte : .arrayClass .byte ∈ t_b := at_p_in (k := 765) (by decide +kernel)
theorem o_tchar : .arrayClass .char ∈ t_b := at_p_in (k := 166) (by decide +kernel)
theorem o_tboolean : .arrayClass .boolean ∈ t_b := at_p_in (k := 249) (by decide +kernel)
theorem o_tlong : .arrayClass .long ∈ t_b := at_p_in (k := 466) (by decide +kernel)
end
section
/-! THE ABSTRACT MACHINE: cells by number, values with numbers for addresses (a String constant k is '.float k', the script is '.float 1000'); a step, a run with fuel. -/
abbrev AC : Type := (FieldType × vp_A) ⊕ (Nat × List Value)
abbrev AH : Type := Nat × Nat × (Nat → AC)
abbrev AL : Type := List (Nat × Value)
abbrev AO : Type := (Nat × AL × List Value × AH) ⊕ (Option Value ⊕ (Nat × List Value × List Value))
def a_lk (t : a_Tb) (o i : Nat) : Option AR := (t.find? (fun e => e.1.1 == o && e.1.2 == i)).map (fun e => e.2)
theorem a_lk_mem {t : a_Tb} {o i : Nat} {r : AR} (h : a_lk t o i = some r) : ((o, i), r) ∈ t := by
  unfold a_lk at h
  cases hf : t.find? (fun e => e.1.1 == o && e.1.2 == i) with
  | none => rw [hf] at h; cases h
  | some e =>
    rw [hf] at h
    have h1 := List.find?_some hf
    have h2 := List.mem_of_find?_eq_some hf
    simp only [Bool.and_eq_true, beq_iff_eq] at h1
    have h3 : e.2 = r := Option.some.inj h
    have h4 : e = ((o, i), r) := by
      rw [← h3, ← h1.1, ← h1.2]
    rw [← h4]
    exact h2
def a_len : Instr → Nat
  | .bipush _ => 2
  | .ldc _ => 2
  | .iload _ => 2
  | .lload _ => 2
  | .aload _ => 2
  | .istore _ => 2
  | .lstore _ => 2
  | .astore _ => 2
  | .newarray _ => 2
  | .sipush _ => 3
  | .ldc_w _ => 3
  | .ldc2_w _ => 3
  | .iinc _ _ => 3
  | .ifCond _ _ => 3
  | .if_icmp _ _ => 3
  | .goto _ => 3
  | .getfield _ => 3
  | .getstatic _ => 3
  | .putfield _ => 3
  | .invokevirtual _ => 3
  | .invokespecial _ => 3
  | .invokestatic _ => 3
  | .new _ => 3
  | .tableswitch _ _ _ _ => 0
  | .lookupswitch _ _ => 0
  | _ => 1
def a_res (mi : Nat) : Instr → Option AR
  | .getfield i => match a_lk f_T (m_o mi) i with
    | some r => some r
    | none => (a_lk g_T (m_o mi) i).map (fun r => (100 + r.1, r.2))
  | .getstatic i => a_lk g_T (m_o mi) i
  | .putfield i => a_lk f_T (m_o mi) i
  | .new i => a_lk n_T (m_o mi) i
  | .ldc i => a_lk d_T (m_o mi) i
  | .ldc_w i => a_lk d_T (m_o mi) i
  | .ldc2_w i => a_lk l_T (m_o mi) i
  | .invokevirtual i => a_lk k_T (m_o mi) i
  | .invokespecial i => a_lk k_T (m_o mi) i
  | .invokestatic i => a_lk k_T (m_o mi) i
  | _ => some (0, 0, 0)
def a_ins (mi pc : Nat) : Option (Instr × AR) := match decode (m_b mi) pc with
  | .ok (i, n) => if a_len i = n ∨ a_len i = 0 then (a_res mi i).map (fun r => (i, r)) else none
  | _ => none
theorem a_ins_spec {mi pc : Nat} {i : Instr} {r : AR} (h : a_ins mi pc = some (i, r)) : ∃ n, decode (m_b mi) pc = .ok (i, n) ∧ (a_len i = n ∨ a_len i = 0) ∧ a_res mi i = some r := by
  unfold a_ins at h
  split at h
  · rename_i j n hd
    by_cases hn : a_len j = n ∨ a_len j = 0
    · rw [if_pos hn] at h
      cases hr : a_res mi j with
      | none => rw [hr] at h; cases h
      | some r' =>
        rw [hr] at h
        cases h
        exact ⟨n, hd, hn, hr⟩
    · rw [if_neg hn] at h
      cases h
  · cases h
def l_g : AL → Nat → Option Value
  | [], _ => none
  | q :: l, i => if q.1 = i then some q.2 else l_g l i
theorem l_g_mem : ∀ {l : AL} {i : Nat} {v : Value}, l_g l i = some v → (i, v) ∈ l
  | q :: l, i, v, h => by
    unfold l_g at h
    by_cases hq : q.1 = i
    · rw [if_pos hq] at h
      have h1 : q.2 = v := Option.some.inj h
      rw [← hq, ← h1]
      exact List.mem_cons_self
    · rw [if_neg hq] at h
      exact List.mem_cons_of_mem _ (l_g_mem h)
def l_in (i : Nat) (v : Value) : AL → AL
  | [] => [(i, v)]
  | q :: l => if i < q.1 then (i, v) :: q :: l else q :: l_in i v l
theorem l_in_mem {i : Nat} {v : Value} {q : Nat × Value} : ∀ {l : AL}, q ∈ l_in i v l → q = (i, v) ∨ q ∈ l
  | [], h => Or.inl (List.mem_singleton.mp h)
  | x :: l, h => by
    unfold l_in at h
    split at h
    · exact List.mem_cons.mp h
    · rcases List.mem_cons.mp h with h | h
      · exact Or.inr (List.mem_cons.mpr (Or.inl h))
      · exact (l_in_mem h).imp id (List.mem_cons_of_mem _)
def l_s (l : AL) (i : Nat) (v : Value) : AL := l_in i v (l.filter (fun q => !(q.1 == i) && !(q.1 + 1 == i && q.2.category == 2)))
def l_s2 (l : AL) (i : Nat) (v : Value) : AL := l_in i v (l.filter (fun q => !(q.1 == i) && (!(q.1 == i + 1) && !(q.1 + 1 == i && q.2.category == 2))))
def h_up (h : AH) (i : Nat) (c : AC) : AH := (h.1, h.2.1, va_up h.2.2 i c)
def h_ps (h : AH) (n : Nat) (c : AC) : AH := (h.1 + 1, h.2.1 + n, va_up h.2.2 h.1 c)
def a_nx (pc : Nat) (l : AL) (st : List Value) (h : AH) : Option AO := some (.inl (pc, l, st, h))
def a_go (pc : Nat) (off : Int) (l : AL) (st : List Value) (h : AH) : Option AO := if 0 ≤ (pc : Int) + off then some (.inl (((pc : Int) + off).toNat, l, st, h)) else none
def a_br (c : Prop) [Decidable c] (pc : Nat) (off : Int) (l : AL) (st : List Value) (h : AH) : Option AO := if 0 ≤ (pc : Int) + off then (if c then a_nx ((pc : Int) + off).toNat l st h else a_nx (pc + 3) l st h) else none
def a_if (c : ClassFile.Cond) (x : Int32) (pc : Nat) (off : Int) (l : AL) (st : List Value) (h : AH) : Option AO := match c with
  | .eq => a_br (x = 0) pc off l st h
  | .ne => a_br (¬ x = 0) pc off l st h
  | .lt => a_br (x < 0) pc off l st h
  | .ge => a_br (0 ≤ x) pc off l st h
  | .gt => a_br (0 < x) pc off l st h
  | .le => a_br (x ≤ 0) pc off l st h
def a_ic (c : ClassFile.Cond) (x y : Int32) (pc : Nat) (off : Int) (l : AL) (st : List Value) (h : AH) : Option AO := match c with
  | .eq => a_br (x = y) pc off l st h
  | .ne => a_br (¬ x = y) pc off l st h
  | .lt => a_br (x < y) pc off l st h
  | .ge => a_br (y ≤ x) pc off l st h
  | .gt => a_br (y < x) pc off l st h
  | .le => a_br (x ≤ y) pc off l st h
/-- an int array of a type: its length and contents -/
def h_ai (h : AH) (a : Nat) (t : FieldType) : Option (Nat × (Nat → Int32)) := if a < h.1 then (match h.2.2 a with
  | .inl (t', n, .inl f) => if t' = t then some (n, f) else none
  | _ => none) else none
def h_al (h : AH) (a : Nat) : Option (Nat × (Nat → Int64)) := if a < h.1 then (match h.2.2 a with
  | .inl (.long, n, .inr (.inl f)) => some (n, f)
  | _ => none) else none
def h_ob (h : AH) (a : Nat) : Option (Nat × List Value) := if a < h.1 then (match h.2.2 a with
  | .inr o => some o
  | _ => none) else none
def a_inb (i : Int32) (n : Nat) : Bool := !(decide (i < 0) || decide (n ≤ i.toNatClampNeg))
def a_ld (h : AH) (a : Nat) (t : FieldType) (i : Int32) : Option Int32 := match h_ai h a t with
  | some (n, f) => if a_inb i n = true then some (f i.toNatClampNeg) else none
  | none => none
def a_sv (h : AH) (a : Nat) (t : FieldType) (i x : Int32) : Option AH := match h_ai h a t with
  | some (n, f) => if a_inb i n = true then some (h_up h a (.inl (t, n, .inl (upd f i.toNatClampNeg x)))) else none
  | none => none
def a_def (t : FieldType) (n : Nat) : Option AC := match t with
  | .int => some (.inl (.int, n, .inl (fun _ => 0)))
  | .byte => some (.inl (.byte, n, .inl (fun _ => 0)))
  | .char => some (.inl (.char, n, .inl (fun _ => 0)))
  | .boolean => some (.inl (.boolean, n, .inl (fun _ => 0)))
  | .long => some (.inl (.long, n, .inr (.inl (fun _ => 0))))
  | _ => none
def a_sum (st : List Value) : Nat := (st.map fun v => v.category).sum
def a_rm (mi mj : Nat) : Bool := decide (m_f mj + 1 ≤ m_f mi) && decide (8 + (m_l mj + 11) + m_w mj ≤ m_w mi)
def a_nt (mi : Nat) : Bool := decide (1 ≤ m_f mi) && decide (21 ≤ m_w mi)
def a_cn (ci : Nat) : String := match c_R[ci]? with
  | some r => r.1
  | none => ""
/-- a call: kinds 0 virtual, 1 static, 2 and 3 constructors -/
def a_call (mi : Nat) (k mj n : Nat) (st : List Value) (h : AH) : Option AO :=
  if k = 1 then (if n ≤ st.length ∧ a_rm mi mj = true ∧ a_sum (st.drop n) ≤ 8 ∧ a_sum (st.take n).reverse ≤ m_l mj then some (.inr (.inr (mj, (st.take n).reverse, st.drop n))) else none)
  else if k = 0 then (match st.drop n with
    | .ref a :: rest => match h_ob h a with
      | some (ci, _) => if n ≤ st.length ∧ a_rm mi mj = true ∧ a_sum rest ≤ 8 ∧ a_cn ci = (m_y mj).cls ∧ a_sum (.ref a :: (st.take n).reverse) ≤ m_l mj then some (.inr (.inr (mj, .ref a :: (st.take n).reverse, rest))) else none
      | none => none
    | .float q :: rest => if n ≤ st.length ∧ a_rm mi mj = true ∧ a_sum rest ≤ 8 ∧ (q.toNat < 9 ∧ "java/lang/String" = (m_y mj).cls) ∧ a_sum (.float q :: (st.take n).reverse) ≤ m_l mj then some (.inr (.inr (mj, .float q :: (st.take n).reverse, rest))) else none
    | _ => none)
  else (match st.drop n with
    | .ref a :: rest => if n ≤ st.length ∧ a_rm mi mj = true ∧ a_sum rest ≤ 8 ∧ a_sum (.ref a :: (st.take n).reverse) ≤ m_l mj then some (.inr (.inr (mj, .ref a :: (st.take n).reverse, rest))) else none
    | _ => none)
end
section
def s_L : List Nat := s_V.map (fun r => r.2.2.length)
def s_B : List (List Int32) := s_V.map (fun r => r.2.2.toList.map (fun ch => Int32.ofNat ch.toNat))
def s_O (i : Nat) : String × Nat × String := s_V.getD i ("", 0, "")
def a_fk (v : Value) : Bool := match v with
  | .float _ => false
  | .double _ => false
  | .retAddr _ => false
  | _ => true
def a_nat (mi : Nat) (pc : Nat) (k : Nat) (l : AL) (st : List Value) (h : AH) : Option AO := match k, st with
  | 4, .ref _ :: rest => if a_nt mi = true ∧ a_sum rest ≤ 8 then a_nx (pc + 3) l rest h else none
  | 5, .int y :: .int x :: rest => if a_nt mi = true ∧ a_sum rest ≤ 8 then a_nx (pc + 3) l (.int (if y < x then y else x) :: rest) h else none
  | 6, .int y :: .int x :: rest => if a_nt mi = true ∧ a_sum rest ≤ 8 then a_nx (pc + 3) l (.int (if x < y then y else x) :: rest) h else none
  | 7, .int n :: .int dp :: .ref d :: .int sp :: .ref s :: rest => match h_ai h s .char, h_ai h d .char with
    | some (n0, f), some (n1, g) => if decide (40 ≤ m_w mi) = true ∧ a_nt mi = true ∧ a_sum rest ≤ 8 ∧ ¬ sp < 0 ∧ ¬ dp < 0 ∧ ¬ n < 0 ∧ sp.toNatClampNeg + n.toNatClampNeg ≤ n0 ∧ dp.toNatClampNeg + n.toNatClampNeg ≤ n1 ∧ (List.range n.toNatClampNeg).all (fun i => fits .char (.int (f (sp.toNatClampNeg + i)))) = true
        then a_nx (pc + 3) l rest (h_up h d (.inl (.char, n1, .inl (va_cpy f g sp.toNatClampNeg dp.toNatClampNeg n.toNatClampNeg)))) else none
    | _, _ => none
  | _, _ => none
def a_put (mi : Nat) (ci k : Nat) (v : Value) : Bool := match c_R[ci]? with
  | some (C, T, N, ty) => decide (k < N) && a_fk v && decide (narrow (ty k) v = v) && fits (ty k) v && (!(T k).2.2.2 || (decide ((T k).1 = o_N.getD (m_o mi) "") && decide ((m_y mi).name = "<init>")))
  | none => false
def a_new (ci : Nat) : Option (List Value) := match c_R[ci]? with
  | some (_, _, N, ty) => if (List.range N).all (fun j => a_fk (defaultValue (ty j))) = true then some ((List.range N).map (fun j => defaultValue (ty j))) else none
  | none => none
def a_ti : FieldType → Option Nat
  | .int => some 0
  | .byte => some 1
  | .char => some 2
  | .boolean => some 3
  | .long => some 4
  | _ => none
def a_st (L : Nat) (xs : Nat → Int32) (mi pc : Nat) (l : AL) (st : List Value) (h : AH) (i : Instr) (r : AR) : Option AO := match i, st with
  | .iconst v, st => a_nx (pc + 1) l (.int (Int32.ofInt v) :: st) h
  | .bipush v, st => a_nx (pc + 2) l (.int (Int8.ofInt v).toInt32 :: st) h
  | .sipush v, st => a_nx (pc + 3) l (.int (Int16.ofInt v).toInt32 :: st) h
  | .lconst v, st => a_nx (pc + 1) l (.long (Int64.ofNat (v : Nat)) :: st) h
  | .ldc _, st => if r.1 = 0 then a_nx (pc + 2) l (.int (i_V.getD r.2.1 0) :: st) h else a_nx (pc + 2) l (.float (UInt32.ofNat r.2.1) :: st) h
  | .ldc_w _, st => if r.1 = 0 then a_nx (pc + 3) l (.int (i_V.getD r.2.1 0) :: st) h else none
  | .ldc2_w _, st => a_nx (pc + 3) l (.long (l_V.getD r.2.1 0) :: st) h
  | .iload_n k, st => match l_g l k with
    | some (.int x) => a_nx (pc + 1) l (.int x :: st) h
    | _ => none
  | .iload k, st => match l_g l k with
    | some (.int x) => a_nx (pc + 2) l (.int x :: st) h
    | _ => none
  | .lload_n k, st => match l_g l k with
    | some (.long x) => a_nx (pc + 1) l (.long x :: st) h
    | _ => none
  | .lload k, st => match l_g l k with
    | some (.long x) => a_nx (pc + 2) l (.long x :: st) h
    | _ => none
  | .aload_n k, st => match l_g l k with
    | some (.ref x) => a_nx (pc + 1) l (.ref x :: st) h
    | some (.float x) => if x = 3000 then none else a_nx (pc + 1) l (.float x :: st) h
    | _ => none
  | .aload k, st => match l_g l k with
    | some (.ref x) => a_nx (pc + 2) l (.ref x :: st) h
    | some (.float x) => if x = 3000 then none else a_nx (pc + 2) l (.float x :: st) h
    | _ => none
  | .istore_n k, .int x :: st => if (k : Nat) < m_l mi then a_nx (pc + 1) (l_s l k (.int x)) st h else none
  | .istore k, .int x :: st => if k < m_l mi then a_nx (pc + 2) (l_s l k (.int x)) st h else none
  | .astore_n k, .ref x :: st => if (k : Nat) < m_l mi then a_nx (pc + 1) (l_s l k (.ref x)) st h else none
  | .astore k, .ref x :: st => if k < m_l mi then a_nx (pc + 2) (l_s l k (.ref x)) st h else none
  | .lstore_n k, .long x :: st => if (k : Nat) + 1 < m_l mi then a_nx (pc + 1) (l_s2 l k (.long x)) st h else none
  | .lstore k, .long x :: st => if k + 1 < m_l mi then a_nx (pc + 2) (l_s2 l k (.long x)) st h else none
  | .iinc k v, st => match l_g l k with
    | some (.int x) => if k < m_l mi then a_nx (pc + 3) (l_s l k (.int (x + Int32.ofInt v))) st h else none
    | _ => none
  | .iadd, .int y :: .int x :: st => a_nx (pc + 1) l (.int (x + y) :: st) h
  | .isub, .int y :: .int x :: st => a_nx (pc + 1) l (.int (x - y) :: st) h
  | .imul, .int y :: .int x :: st => a_nx (pc + 1) l (.int (x * y) :: st) h
  | .idiv, .int y :: .int x :: st => if y = 0 then none else a_nx (pc + 1) l (.int (x / y) :: st) h
  | .irem, .int y :: .int x :: st => if y = 0 then none else a_nx (pc + 1) l (.int (x - x / y * y) :: st) h
  | .iand, .int y :: .int x :: st => a_nx (pc + 1) l (.int (x &&& y) :: st) h
  | .ior, .int y :: .int x :: st => a_nx (pc + 1) l (.int (x ||| y) :: st) h
  | .ishl, .int y :: .int x :: st => a_nx (pc + 1) l (.int (x <<< (y &&& 31)) :: st) h
  | .ishr, .int y :: .int x :: st => a_nx (pc + 1) l (.int (x >>> (y &&& 31)) :: st) h
  | .iushr, .int y :: .int x :: st => a_nx (pc + 1) l (.int (x.toUInt32 >>> (y.toUInt32 &&& Int32.toUInt32 31)).toInt32 :: st) h
  | .ladd, .long y :: .long x :: st => a_nx (pc + 1) l (.long (x + y) :: st) h
  | .lor, .long y :: .long x :: st => a_nx (pc + 1) l (.long (x ||| y) :: st) h
  | .lshl, .int y :: .long x :: st => a_nx (pc + 1) l (.long (x <<< (y.toInt64 &&& 63)) :: st) h
  | .lcmp, .long y :: .long x :: st => a_nx (pc + 1) l (.int (lg_cmp x y) :: st) h
  | .i2l, .int x :: st => a_nx (pc + 1) l (.long x.toInt64 :: st) h
  | .i2c, .int x :: st => a_nx (pc + 1) l (.int (x.toUInt32 % 65536).toInt32 :: st) h
  | .i2b, .int x :: st => a_nx (pc + 1) l (.int x.toInt8.toInt32 :: st) h
  | .dup, v :: st => if v.category = 1 then a_nx (pc + 1) l (v :: v :: st) h else none
  | .pop, v :: st => if v.category = 1 then a_nx (pc + 1) l st h else none
  | .pop2, v :: st => if v.category = 2 then a_nx (pc + 1) l st h else none
  | .dup2, v :: w :: st => if v.category = 1 ∧ w.category = 1 then a_nx (pc + 1) l (v :: w :: v :: w :: st) h else none
  | .ifCond c off, .int x :: st => a_if c x pc off l st h
  | .if_icmp c off, .int y :: .int x :: st => a_ic c x y pc off l st h
  | .goto off, st => a_go pc off l st h
  | .tableswitch d lo hi offs, .int x :: st => if x.toInt < lo ∨ hi < x.toInt then a_go pc d l st h else (match offs[(x.toInt - lo).toNat]? with
    | some off => a_go pc off l st h
    | none => none)
  | .lookupswitch d ps, .int x :: st => if (ps.toList.zip (ps.toList.drop 1)).all (fun (a, next) => a.1 < next.1) = true then a_go pc (Op.lookupswitch.offset ps.toList d x.toInt) l st h else none
  | .arraylength, .ref a :: st => if a < h.1 then (match h.2.2 a with
    | .inl (t, n, _) => if (a_ti t).isSome = true then a_nx (pc + 1) l (.int (Int32.ofNat n) :: st) h else none
    | _ => none) else none
  | .arraylength, .float k :: st => if k = 1000 then a_nx (pc + 1) l (.int (Int32.ofNat L) :: st) h else if 2000 ≤ k.toNat ∧ k.toNat < 2009 then a_nx (pc + 1) l (.int (Int32.ofNat (s_L.getD (k.toNat - 2000) 0)) :: st) h else none
  | .iaload, .int j :: .ref a :: st => match a_ld h a .int j with
    | some v => a_nx (pc + 1) l (.int v :: st) h
    | none => none
  | .iaload, .int j :: .float k :: st => if k = 1000 ∧ a_inb j L = true then a_nx (pc + 1) l (.int (xs j.toNatClampNeg) :: st) h else none
  | .caload, .int j :: .ref a :: st => match a_ld h a .char j with
    | some v => a_nx (pc + 1) l (.int v :: st) h
    | none => none
  | .baload, .int j :: .ref a :: st => match a_ld h a .byte j with
    | some v => a_nx (pc + 1) l (.int v :: st) h
    | none => match a_ld h a .boolean j with
      | some v => a_nx (pc + 1) l (.int v :: st) h
      | none => none
  | .laload, .int j :: .ref a :: st => match h_al h a with
    | some (n, f) => if a_inb j n = true then a_nx (pc + 1) l (.long (f j.toNatClampNeg) :: st) h else none
    | none => none
  | .iastore, .int x :: .int j :: .ref a :: st => match a_sv h a .int j x with
    | some h' => a_nx (pc + 1) l st h'
    | none => none
  | .castore, .int x :: .int j :: .ref a :: st => match a_sv h a .char j (vp_nar .char x) with
    | some h' => a_nx (pc + 1) l st h'
    | none => none
  | .bastore, .int x :: .int j :: .ref a :: st => match a_sv h a .byte j (vp_nar .byte x) with
    | some h' => a_nx (pc + 1) l st h'
    | none => match a_sv h a .boolean j (vp_nar .boolean x) with
      | some h' => a_nx (pc + 1) l st h'
      | none => none
  | .lastore, .long x :: .int j :: .ref a :: st => match h_al h a with
    | some (n, f) => if a_inb j n = true then a_nx (pc + 1) l st (h_up h a (.inl (.long, n, .inr (.inl (vp_updL f j.toNatClampNeg x))))) else none
    | none => none
  | .newarray t, .int n :: st => match a_def (newarray.typeOf t) n.toNatClampNeg with
    | some c => if ¬ n < 0 ∧ n.toNatClampNeg * 8 ≤ 536870912 then a_nx (pc + 2) l (.ref h.1 :: st) (h_ps h n.toNatClampNeg c) else none
    | none => none
  | .new _, st => match a_new r.1 with
    | some fs => a_nx (pc + 3) l (.ref h.1 :: st) (h_ps h r.2.1 (.inr (r.1, fs)))
    | none => none
  | .getfield _, .ref a :: st => match h_ob h a with
    | some (ci, fs) => if ci = r.1 then (match fs[r.2.1]? with
      | some v => a_nx (pc + 3) l (v :: st) h
      | none => none) else none
    | none => none
  | .putfield _, v :: .ref a :: st => match h_ob h a with
    | some (ci, fs) => if ci = r.1 ∧ r.2.1 < fs.length ∧ a_put mi ci r.2.1 v = true then a_nx (pc + 3) l st (h_up h a (.inr (ci, fs.set r.2.1 v))) else none
    | none => none
  | .invokevirtual _, st => if r.1 = 0 then a_call mi r.1 r.2.1 r.2.2 st h else none
  | .invokestatic _, st => if r.1 = 1 then a_call mi r.1 r.2.1 r.2.2 st h else if r.1 = 5 ∨ r.1 = 6 ∨ r.1 = 7 then a_nat mi pc r.1 l st h else none
  | .invokespecial _, st => if r.1 = 2 ∨ r.1 = 3 then a_call mi r.1 r.2.1 r.2.2 st h else if r.1 = 4 then a_nat mi pc r.1 l st h else none
  | .ireturn, [.int v] => match m_r mi with
    | some t => if narrow t (.int v) = .int v then some (.inr (.inl (some (.int v)))) else none
    | none => none
  | .lreturn, [.long v] => if m_r mi = some .long then some (.inr (.inl (some (.long v)))) else none
  | .return_, [] => if m_r mi = none then some (.inr (.inl none)) else none
  | .getstatic _, st => if r.1 = 2 then a_nx (pc + 3) l (.int 1 :: st) h else if r.1 = 3 then a_nx (pc + 3) l (.float 3000 :: st) h else none
  | .getfield _, .float k :: st => if k.toNat < 9 ∧ r.1 = 100 then a_nx (pc + 3) l (.float (UInt32.ofNat (2000 + k.toNat)) :: st) h else if k.toNat < 9 ∧ r.1 = 101 then a_nx (pc + 3) l (.int 0 :: st) h else none
  | .baload, .int j :: .float k :: st => if (2000 ≤ k.toNat ∧ k.toNat < 2009) ∧ a_inb j (s_L.getD (k.toNat - 2000) 0) = true then a_nx (pc + 1) l (.int ((s_B.getD (k.toNat - 2000) []).getD j.toNatClampNeg 0) :: st) h else none
  | _, _ => none
def a_run (L : Nat) (xs : Nat → Int32) : Nat → Nat → Nat → AL → List Value → AH → Option (Option Value × AH)
  | 0, _, _, _, _, _ => none
  | f + 1, mi, pc, l, st, h => match a_ins mi pc with
    | none => none
    | some (i, r) => match a_st L xs mi pc l st h i r with
      | none => none
      | some (.inl (pc', l', st', h')) => a_run L xs f mi pc' l' st' h'
      | some (.inr (.inl v)) => some (v, h)
      | some (.inr (.inr (mj, as, rest))) => match a_run L xs f mj 0 (lv_args 0 as) [] h with
        | none => none
        | some (v, h') => a_run L xs f mi (pc + 3) l (v.toList ++ rest) h'
end
section
/-! THE ABSTRACT MACHINE'S CELLS AND VALUES, as the real machine has them -/
def c_z : Nat → Value
  | 0 => .null
  | n + 1 => .ref n
def c_v (base : Nat) (aK : Nat → Nat) (b : Nat) : Value → Value
  | .ref i => .ref (base + i)
  | .float k => if k = 3000 then c_z (aK 3000) else .ref (if k = 1000 then b else aK k.toNat)
  | .int x => .int x
  | .long x => .long x
  | .double x => .double x
  | .null => .null
  | .retAddr x => .retAddr x
def c_e (base : Nat) (aK : Nat → Nat) (b : Nat) (dA : FieldType → ClassId) : AC → va_E
  | .inl (t, a) => .inl (dA t, a)
  | .inr (ci, fs) => .inr (ci, fs.map (c_v base aK b))
def c_l (base : Nat) (aK : Nat → Nat) (b : Nat) (l : AL) : AL := l.map (fun q => (q.1, c_v base aK b q.2))
def a_w (base : Nat) (aK : Nat → Nat) (b : Nat) (dA : FieldType → ClassId) (n : Nat) (g : Nat → AC) : va_W := (List.range n).map (fun i => (base + i, c_e base aK b dA (g i)))
def a_ty (dA : FieldType → ClassId) : List (ClassId × FieldType) := [(dA .int, .int), (dA .byte, .byte), (dA .char, .char), (dA .boolean, .boolean), (dA .long, .long)]
section REL
variable {base : Nat} {aK : Nat → Nat} {b : Nat} {dA : FieldType → ClassId}
theorem c_f (k : UInt32) : c_v base aK b (.float k) = if k = 3000 then c_z (aK 3000) else .ref (if k = 1000 then b else aK k.toNat) := rfl
theorem c_zc (n : Nat) : (c_z n).category = 1 := by cases n <;> rfl
theorem c_cat (v : Value) : (c_v base aK b v).category = v.category := by
  cases v with
  | float k =>
    rw [c_f]
    by_cases h : k = 3000
    · rw [if_pos h, c_zc]
      rfl
    · rw [if_neg h]
      rfl
  | _ => rfl
theorem c_fl {k : UInt32} (h : ¬ k = 3000) : c_v base aK b (.float k) = .ref (if k = 1000 then b else aK k.toNat) := by
  rw [c_f, if_neg h]
theorem c_fk {k : UInt32} (h : ¬ k = 3000) (h2 : ¬ k = 1000) : c_v base aK b (.float k) = .ref (aK k.toNat) := by
  rw [c_fl h, if_neg h2]
theorem c_sum (st : List Value) : ((st.map (c_v base aK b)).map fun v => v.category).sum = a_sum st := by
  unfold a_sum
  rw [List.map_map]
  congr 1
  apply List.map_congr_left
  intro v _
  exact c_cat v
theorem c_g {ls : Array Slot} {nL : Nat} {l : AL} (h : lv_has ls nL (c_l base aK b l)) {i : Nat} {v : Value} (hg : l_g l i = some v) : ls[i]? = some (.val (c_v base aK b v)) := by
  have h1 := l_g_mem hg
  exact h.2.2 (i, c_v base aK b v) (List.mem_map.mpr ⟨(i, v), h1, rfl⟩)
theorem c_in {ls : Array Slot} {nL i : Nat} {v : Value} {l0 l : AL} (h : lv_has ls nL ((i, c_v base aK b v) :: l0)) (e : l0 = c_l base aK b l) : lv_has ls nL (c_l base aK b (l_in i v l)) := by
  refine ⟨h.1, h.2.1, fun q hq => ?_⟩
  obtain ⟨x, hx, rfl⟩ := List.mem_map.mp hq
  rcases l_in_mem hx with rfl | hx
  · exact h.2.2 _ List.mem_cons_self
  · exact h.2.2 _ (List.mem_cons_of_mem _ (by rw [e]; exact List.mem_map.mpr ⟨x, hx, rfl⟩))
theorem c_s {ls : Array Slot} {nL i : Nat} {v : Value} {l : AL} (h : lv_has ls nL ((i, c_v base aK b v) :: (c_l base aK b l).filter (fun q => !(q.1 == i) && !(q.1 + 1 == i && q.2.category == 2)))) : lv_has ls nL (c_l base aK b (l_s l i v)) := by
  refine c_in h ?_
  unfold c_l
  rw [List.filter_map]
  congr 1
  apply List.filter_congr
  intro q _
  simp only [Function.comp, c_cat]
theorem c_s2 {ls : Array Slot} {nL i : Nat} {v : Value} {l : AL} (h : lv_has ls nL ((i, c_v base aK b v) :: (c_l base aK b l).filter (fun q => !(q.1 == i) && (!(q.1 == i + 1) && !(q.1 + 1 == i && q.2.category == 2))))) : lv_has ls nL (c_l base aK b (l_s2 l i v)) := by
  refine c_in h ?_
  unfold c_l
  rw [List.filter_map]
  congr 1
  apply List.filter_congr
  intro q _
  simp only [Function.comp, c_cat]
theorem c_args : ∀ (as : List Value) (i : Nat), lv_args i (as.map (c_v base aK b)) = c_l base aK b (lv_args i as)
  | [], i => rfl
  | v :: as, i => by
    rw [List.map_cons, lv_args, lv_args, c_cat, c_args as]
    rfl
theorem w_get {n : Nat} {g : Nat → AC} {i : Nat} (h : i < n) : (a_w base aK b dA n g)[i]? = some (base + i, c_e base aK b dA (g i)) := by
  unfold a_w
  rw [List.getElem?_map, List.getElem?_range h]
  rfl
theorem w_none {n : Nat} {g : Nat → AC} {i : Nat} (h : n ≤ i) : (a_w base aK b dA n g)[i]? = none := by
  apply List.getElem?_eq_none
  unfold a_w
  rw [List.length_map, List.length_range]
  exact h
theorem w_some {n : Nat} {g : Nat → AC} {i : Nat} {q : Nat × va_E} (h : (a_w base aK b dA n g)[i]? = some q) : i < n ∧ q = (base + i, c_e base aK b dA (g i)) := by
  rcases Nat.lt_or_ge i n with hi | hi
  · rw [w_get hi] at h
    exact ⟨hi, (Option.some.inj h).symm⟩
  · rw [w_none hi] at h
    cases h
theorem w_set {n : Nat} {g : Nat → AC} {i : Nat} (c : AC) : (a_w base aK b dA n g).set i (base + i, c_e base aK b dA c) = a_w base aK b dA n (va_up g i c) := by
  apply List.ext_getElem?
  intro j
  rcases Nat.lt_or_ge j n with hj | hj
  · rw [w_get hj, List.getElem?_set, w_get hj]
    by_cases e : i = j
    · subst e
      rw [if_pos rfl, if_pos (by unfold a_w; rw [List.length_map, List.length_range]; exact hj)]
      simp [va_up]
    · rw [if_neg e]
      simp [va_up, Ne.symm e]
  · rw [w_none hj, List.getElem?_eq_none]
    rw [List.length_set]
    unfold a_w
    rw [List.length_map, List.length_range]
    exact hj
theorem w_push {n : Nat} {g : Nat → AC} (c : AC) : a_w base aK b dA n g ++ [(base + n, c_e base aK b dA c)] = a_w base aK b dA (n + 1) (va_up g n c) := by
  unfold a_w
  rw [List.range_succ, List.map_append]
  congr 1
  · apply List.map_congr_left
    intro j hj
    have := List.mem_range.mp hj
    simp [va_up, Nat.ne_of_lt this]
  · simp [va_up]
theorem w_D {n : Nat} {g : Nat → AC} : va_D (fun q => base ≤ q) (a_w base aK b dA n g) := by
  refine ⟨fun i j p q hp hq e => ?_, fun k q hq => ?_⟩
  · obtain ⟨-, rfl⟩ := w_some hp
    obtain ⟨-, rfl⟩ := w_some hq
    have e' : base + i = base + j := e
    omega
  · obtain ⟨-, rfl⟩ := w_some hq
    exact Nat.le_add_right base k
theorem w_lo {D : va_G} {cl : List vw_C} {n : Nat} {g : Nat → AC} {H H0 : Heap} {locs : List Loc} (hP : va_P D cl (a_w base aK b dA n g) H) (hS : va_S (fun q => base ≤ q) H0 H locs) (h0 : base ≤ H0.size) : base + n ≤ H.size := by
  cases n with
  | zero => exact Nat.le_trans h0 hS.1
  | succ k =>
    have h1 := (hP k _ (w_get (Nat.lt_succ_self k))).lt
    have h2 : base + k < H.size := h1
    omega
/-- the new cell's address -/
theorem w_new {D : va_G} {cl : List vw_C} {n : Nat} {g : Nat → AC} {H : Heap} {q : Nat} {e : va_E} (hP : va_P D cl (a_w base aK b dA n g ++ [(q, e)]) H) (hD : va_D (fun q => base ≤ q) (a_w base aK b dA n g ++ [(q, e)])) (hz : H.size ≤ base + (n + 1)) : q = base + n := by
  have hlen : (a_w base aK b dA n g).length = n := by unfold a_w; rw [List.length_map, List.length_range]
  have hq : (a_w base aK b dA n g ++ [(q, e)])[n]? = some (q, e) := by
    rw [List.getElem?_append_right (by omega), hlen, Nat.sub_self]
    rfl
  have h1 : q < H.size := (hP n _ hq).lt
  have h2 : base ≤ q := hD.2 n _ hq
  rcases Nat.lt_or_ge q (base + n) with h | h
  · exfalso
    have hi : q - base < n := by omega
    have h3 : (a_w base aK b dA n g ++ [(q, e)])[q - base]? = some (base + (q - base), c_e base aK b dA (g (q - base))) := by
      rw [List.getElem?_append_left (by omega), w_get hi]
    have h4 := hD.1 (q - base) n _ _ h3 hq (show base + (q - base) = q by omega)
    omega
  · omega
theorem w_sz {p : Program} {l : Launch} {e : Env} {R : Room} {s : State} {m : MethodId} {args : Array Value} {below : List Frame} {meth : Method} {c : Code} {H : Heap} {locs : List Loc} {cells slots : Nat} {Q : State → Prop} {g : JFrame} (k : H.size ≤ s.heap.size + cells → W p l e R s m args below meth c H locs cells slots Q g) : W p l e R s m args below meth c H locs cells slots Q g :=
  fun T hT X => k (by rw [← hT]; exact X.heapSize) T hT X
theorem h_ai_spec {h : AH} {a : Nat} {t : FieldType} {n : Nat} {f : Nat → Int32} (e : h_ai h a t = some (n, f)) : a < h.1 ∧ h.2.2 a = .inl (t, n, .inl f) := by
  unfold h_ai at e
  split at e
  · rename_i hlt
    split at e
    · rename_i t' n' f' hc
      split at e
      · rename_i ht
        cases e
        exact ⟨hlt, by rw [hc, ht]⟩
      · cases e
    · cases e
  · cases e
theorem h_al_spec {h : AH} {a : Nat} {n : Nat} {f : Nat → Int64} (e : h_al h a = some (n, f)) : a < h.1 ∧ h.2.2 a = .inl (.long, n, .inr (.inl f)) := by
  unfold h_al at e
  split at e
  · rename_i hlt
    split at e
    · rename_i n' f' hc
      cases e
      exact ⟨hlt, hc⟩
    · cases e
  · cases e
theorem h_ob_spec {h : AH} {a : Nat} {o : Nat × List Value} (e : h_ob h a = some o) : a < h.1 ∧ h.2.2 a = .inr o := by
  unfold h_ob at e
  split at e
  · rename_i hlt
    split at e
    · rename_i o' hc
      cases e
      exact ⟨hlt, hc⟩
    · cases e
  · cases e
theorem a_inb_in {i : Int32} {n : Nat} (h : a_inb i n = true) : vp_in i n := by
  unfold a_inb at h
  simp only [Bool.not_eq_true', Bool.or_eq_false_iff, decide_eq_false_iff_not] at h
  exact fun z => z.elim h.1 h.2
end REL
end
section
/-! THE SIMULATION, a step -/
/-- what stays through a method: the machine, the method, the tables' words, the world's classes, the String constants, the script -/
def w_C (p : Program) (R : Room) (s : State) (m : MethodId) (args : Array Value) (meth : Method) (c : Code) (base : Nat) (dC : Nat → ClassId) (dI : Nat → Nat → Nat) (dA : FieldType → ClassId) (aK aV : Nat → Nat) (b L : Nat) (xs : Nat → Int32) (n0 mi : Nat) : Prop :=
  p.tables.exec = Jvm.exec ∧ c.code = m_b mi ∧ c.maxLocals = m_l mi ∧ s.vm.findClass (o_N.getD (m_o mi) "") = some m.cls ∧ (∀ w ∈ t_b, w.before args s = true) ∧ meth.sig.returnType = m_r mi ∧ meth.locks = false ∧ ((m_y mi).name = "<init>" → meth.name = "<init>") ∧
  va_K (dC, dI) a_cls (a_ty dA) s ∧ (∀ w ∈ w_N, va_Nw w s) ∧ (∀ i, i < 9 → vk_R (s_O i).1 (s_O i).2.1 (s_O i).2.2 (aK i) s) ∧ vk_S 9 s_L s_B aK aV (fun q => base ≤ q) s s.heap ∧ va_X b L xs s s.heap ∧ b < base ∧ s.heap.size = base + n0 ∧ (∀ i, i < 9 → aV i = aK (2000 + i)) ∧ va_Z "java/lang/String" "COMPACT_STRINGS" "Z" (.int 1) (fun q => base ≤ q) s s.heap ∧ va_Z "jdk/internal/util/Preconditions" "SIOOBE_FORMATTER" "Ljava/util/function/BiFunction;" (c_v base aK b (.float 3000)) (fun q => base ≤ q) s s.heap ∧ m_f mi ≤ R.frames ∧ m_w mi ≤ R.locals
/-- what holds at a point of it -/
def w_S (s : State) (base : Nat) (dC : Nat → ClassId) (dI : Nat → Nat → Nat) (dA : FieldType → ClassId) (aK : Nat → Nat) (b : Nat) (n0 k0 : Nat) (h : AH) (H : Heap) (locs : List Loc) (cells slots : Nat) : Prop :=
  va_P (dC, dI) a_cls (a_w base aK b dA h.1 h.2.2) H ∧ va_S (fun q => base ≤ q) s.heap H locs ∧ n0 + cells = h.1 ∧ k0 + slots = h.2.1
theorem w_nx {pc pc' : Nat} {la la' : AL} {st st' : List Value} {h h' : AH} (hs : a_nx pc la st h = some (.inl (pc', la', st', h'))) : pc' = pc ∧ la' = la ∧ st' = st ∧ h' = h := by
  cases hs
  exact ⟨rfl, rfl, rfl, rfl⟩
theorem w_go {pc : Nat} {off : Int} {la la' : AL} {st st' : List Value} {h h' : AH} {pc' : Nat} (hs : a_go pc off la st h = some (.inl (pc', la', st', h'))) : (pc : Int) + off = (pc' : Int) ∧ la' = la ∧ st' = st ∧ h' = h := by
  unfold a_go at hs
  split at hs
  · rename_i h0
    cases hs
    exact ⟨(Int.toNat_of_nonneg h0).symm, rfl, rfl, rfl⟩
  · cases hs
theorem w_br {q : Prop} [Decidable q] {pc : Nat} {off : Int} {la la' : AL} {st st' : List Value} {h h' : AH} {pc' : Nat} (hs : a_br q pc off la st h = some (.inl (pc', la', st', h'))) : (la' = la ∧ st' = st ∧ h' = h) ∧ ∃ tgt : Nat, (pc : Int) + off = (tgt : Int) ∧ (q → pc' = tgt) ∧ (¬ q → pc' = pc + 3) := by
  unfold a_br at hs
  split at hs
  · rename_i h0
    split at hs
    · rename_i hq
      obtain ⟨h1, h2, h3, h4⟩ := w_nx hs
      exact ⟨⟨h2, h3, h4⟩, _, (Int.toNat_of_nonneg h0).symm, fun _ => h1, fun z => absurd hq z⟩
    · rename_i hq
      obtain ⟨h1, h2, h3, h4⟩ := w_nx hs
      exact ⟨⟨h2, h3, h4⟩, _, (Int.toNat_of_nonneg h0).symm, fun z => absurd z hq, fun _ => h1⟩
  · cases hs
theorem w_len {i : Instr} {n : Nat} (k : Nat) (h : a_len i = n ∨ a_len i = 0) (e : a_len i = k + 1) : n = k + 1 := by
  rcases h with h | h
  · rw [← h]; exact e
  · rw [e] at h; cases h
theorem a_ld_spec {h : AH} {a : Nat} {t : FieldType} {i v : Int32} (e : a_ld h a t i = some v) : ∃ n f, a < h.1 ∧ h.2.2 a = .inl (t, n, .inl f) ∧ vp_in i n ∧ v = f i.toNatClampNeg := by
  unfold a_ld at e
  split at e
  · rename_i n f hc
    split at e
    · rename_i hin
      obtain ⟨h1, h2⟩ := h_ai_spec hc
      cases e
      exact ⟨n, f, h1, h2, a_inb_in hin, rfl⟩
    · cases e
  · cases e
theorem a_sv_spec {h h' : AH} {a : Nat} {t : FieldType} {i x : Int32} (e : a_sv h a t i x = some h') : ∃ n f, a < h.1 ∧ h.2.2 a = .inl (t, n, .inl f) ∧ vp_in i n ∧ h' = h_up h a (.inl (t, n, .inl (upd f i.toNatClampNeg x))) := by
  unfold a_sv at e
  split at e
  · rename_i n f hc
    split at e
    · rename_i hin
      obtain ⟨h1, h2⟩ := h_ai_spec hc
      cases e
      exact ⟨n, f, h1, h2, a_inb_in hin, rfl⟩
    · cases e
  · cases e
abbrev w_W (p : Program) (l : Launch) (e : Env) (R : Room) (s : State) (m : MethodId) (args : Array Value) (below : List Frame) (meth : Method) (c : Code) (base : Nat) (aK : Nat → Nat) (b : Nat) (Q : State → Prop) (H : Heap) (locs : List Loc) (cells slots : Nat) (pc : Nat) (ls : Array Slot) (st : List Value) : Prop := W p l e R s m args below meth c H locs cells slots Q (F0 m pc ls (st.map (c_v base aK b)))
section SIM
variable {p : Program} {l : Launch} {e : Env} {R : Room} {s : State} {m : MethodId} {args : Array Value} {below : List Frame} {meth : Method} {c : Code} {H : Heap} {locs : List Loc} {cells slots : Nat} {Q : State → Prop}
variable {base : Nat} {dC : Nat → ClassId} {dI : Nat → Nat → Nat} {dA : FieldType → ClassId} {aK aV : Nat → Nat} {b L : Nat} {xs : Nat → Int32} {n0 k0 mi : Nat}
variable {pc : Nat} {ls : Array Slot} {la : AL} {st : List Value} {h : AH}
theorem sm_if {x : Int32} {cd : ClassFile.Cond} {off : Int} {st' : List Value} {la' : AL} {h' : AH} {pc' : Nat} (hx : p.tables.exec = Jvm.exec) (hb : c.code = m_b mi) (hd : decode (m_b mi) pc = .ok (.ifCond cd off, 3)) (hs : a_if cd x pc off la st h = some (.inl (pc', la', st', h')))
    (kk : la' = la → h' = h → w_W p l e R s m args below meth c base aK b Q H locs cells slots pc' ls st') : w_W p l e R s m args below meth c base aK b Q H locs cells slots pc ls (.int x :: st) := by
  unfold a_if at hs
  cases cd <;> (obtain ⟨⟨rfl, rfl, rfl⟩, tgt, ht, h1, h2⟩ := w_br hs; have kk := kk rfl rfl)
  · exact lv_if_eq hx hb hd ht (fun q => by rw [h1 q] at kk; exact kk) (fun q => by rw [h2 q] at kk; exact kk)
  · exact lv_if_ne hx hb hd ht (fun q => by rw [h1 q] at kk; exact kk) (fun q => by rw [h2 (fun z => z q)] at kk; exact kk)
  · exact lv_if_lt hx hb hd ht (fun q => by rw [h1 q] at kk; exact kk) (fun q => by rw [h2 q] at kk; exact kk)
  · exact lv_if_ge hx hb hd ht (fun q => by rw [h1 q] at kk; exact kk) (fun q => by rw [h2 q] at kk; exact kk)
  · exact lv_if_gt hx hb hd ht (fun q => by rw [h1 q] at kk; exact kk) (fun q => by rw [h2 q] at kk; exact kk)
  · exact lv_if_le hx hb hd ht (fun q => by rw [h1 q] at kk; exact kk) (fun q => by rw [h2 q] at kk; exact kk)
theorem sm_ic {x y : Int32} {cd : ClassFile.Cond} {off : Int} {st' : List Value} {la' : AL} {h' : AH} {pc' : Nat} (hx : p.tables.exec = Jvm.exec) (hb : c.code = m_b mi) (hd : decode (m_b mi) pc = .ok (.if_icmp cd off, 3)) (hs : a_ic cd x y pc off la st h = some (.inl (pc', la', st', h')))
    (kk : la' = la → h' = h → w_W p l e R s m args below meth c base aK b Q H locs cells slots pc' ls st') : w_W p l e R s m args below meth c base aK b Q H locs cells slots pc ls (.int y :: .int x :: st) := by
  unfold a_ic at hs
  cases cd <;> (obtain ⟨⟨rfl, rfl, rfl⟩, tgt, ht, h1, h2⟩ := w_br hs; have kk := kk rfl rfl)
  · exact lv_icmp_eq hx hb hd ht (fun q => by rw [h1 q] at kk; exact kk) (fun q => by rw [h2 q] at kk; exact kk)
  · exact lv_icmp_ne hx hb hd ht (fun q => by rw [h1 q] at kk; exact kk) (fun q => by rw [h2 (fun z => z q)] at kk; exact kk)
  · exact lv_icmp_lt hx hb hd ht (fun q => by rw [h1 q] at kk; exact kk) (fun q => by rw [h2 q] at kk; exact kk)
  · exact lv_icmp_ge hx hb hd ht (fun q => by rw [h1 q] at kk; exact kk) (fun q => by rw [h2 q] at kk; exact kk)
  · exact lv_icmp_gt hx hb hd ht (fun q => by rw [h1 q] at kk; exact kk) (fun q => by rw [h2 q] at kk; exact kk)
  · exact lv_icmp_le hx hb hd ht (fun q => by rw [h1 q] at kk; exact kk) (fun q => by rw [h2 q] at kk; exact kk)
end SIM
end
section
section SIM2
variable {p : Program} {l : Launch} {e : Env} {R : Room} {s : State} {m : MethodId} {args : Array Value} {below : List Frame} {meth : Method} {c : Code} {H : Heap} {locs : List Loc} {cells slots : Nat} {Q : State → Prop}
variable {base : Nat} {dC : Nat → ClassId} {dI : Nat → Nat → Nat} {dA : FieldType → ClassId} {aK aV : Nat → Nat} {b L : Nat} {xs : Nat → Int32} {n0 k0 mi : Nat}
variable {pc : Nat} {ls : Array Slot} {la : AL} {st : List Value} {h : AH}
theorem sm_P {a n : Nat} {cl : AC} (hP : va_P (dC, dI) a_cls ((a_w base aK b dA h.1 h.2.2).set a (base + a, c_e base aK b dA cl)) H) : va_P (dC, dI) a_cls (a_w base aK b dA (h_up h a cl).1 (h_up h a cl).2.2) H := by
  rw [w_set] at hP
  exact hP
theorem sm_K {t0 : Nat} {t : FieldType} (h : (a_ty dA)[t0]? = some (dA t, t)) : (a_ty dA)[t0]? = some (dA t, t) := h
theorem sm_c {a : Nat} {cl : AC} (hlt : a < h.1) (hc : h.2.2 a = cl) : (a_w base aK b dA h.1 h.2.2)[a]? = some (base + a, c_e base aK b dA cl) := by
  rw [w_get hlt, hc]
/-- behind an allocation -/
theorem sm_al {cl : AC} {k q : Nat} {H1 : Heap} {pc' : Nat} {st' : List Value} (hz0 : s.heap.size = base + n0) (hw : w_S s base dC dI dA aK b n0 k0 h H locs cells slots) (hl : lv_has ls (m_l mi) (c_l base aK b la))
    (hP1 : va_P (dC, dI) a_cls (a_w base aK b dA h.1 h.2.2 ++ [(q, c_e base aK b dA cl)]) H1) (hD1 : va_D (fun q => base ≤ q) (a_w base aK b dA h.1 h.2.2 ++ [(q, c_e base aK b dA cl)])) (hS1 : va_S (fun q => base ≤ q) s.heap H1 locs)
    (kk : ∀ (H' : Heap) (locs' : List Loc) (cells' slots' : Nat) (ls' : Array Slot), lv_has ls' (m_l mi) (c_l base aK b la) → w_S s base dC dI dA aK b n0 k0 (h_ps h k cl) H' locs' cells' slots' → w_W p l e R s m args below meth c base aK b Q H' locs' cells' slots' pc' ls' (.ref h.1 :: st')) :
    W p l e R s m args below meth c H1 locs (cells + 1) (slots + k) Q (F0 m pc' ls (.ref q :: st'.map (c_v base aK b))) := by
  refine w_sz (fun hz => ?_)
  have hq : q = base + h.1 := w_new hP1 hD1 (by have := hw.2.2.1; omega)
  subst hq
  refine kk H1 locs (cells + 1) (slots + k) ls hl ⟨?_, hS1, ?_, ?_⟩
  · rw [w_push] at hP1
    exact hP1
  · show n0 + (cells + 1) = h.1 + 1
    have := hw.2.2.1
    omega
  · show k0 + (slots + k) = h.2.1 + k
    have := hw.2.2.2
    omega
theorem sm_nA {atype : ArrayType} {t : FieldType} {a0 : vp_A} {N' : Nat} {n : Int32} (hx : p.tables.exec = Jvm.exec) (hb : c.code = m_b mi) (harr : (Cond.arrayClass (newarray.typeOf atype)).before args s = true) (hty : newarray.typeOf atype = t) {t0 : Nat} (ht0 : (a_ty dA)[t0]? = some (dA t, t)) (hpr : ∀ (U : State) (cA : ClassId), va_RA U cA t → U.vm.findClass ("[" ++ t.toString) = some cA) (hK : va_K (dC, dI) a_cls (a_ty dA) s) (hz0 : s.heap.size = base + n0) (hw : w_S s base dC dI dA aK b n0 k0 h H locs cells slots) (hl : lv_has ls (m_l mi) (c_l base aK b la))
    (ha : ∀ cA : ClassId, vp_cell cA a0 = arrV cA N' (fun _ => defaultValue t)) (hn : ¬ n < 0) (hN : n.toNatClampNeg = N') (hbytes : N' * componentBytes t ≤ 536870912) (hRc : n0 + R.cells ≥ h.1 + 1) (hRs : k0 + R.slots ≥ h.2.1 + N') (hd : decode (m_b mi) pc = .ok (.newarray atype, 2))
    (kk : ∀ (H' : Heap) (locs' : List Loc) (cells' slots' : Nat) (ls' : Array Slot), lv_has ls' (m_l mi) (c_l base aK b la) → w_S s base dC dI dA aK b n0 k0 (h_ps h N' (.inl (t, a0))) H' locs' cells' slots' → w_W p l e R s m args below meth c base aK b Q H' locs' cells' slots' (pc + 2) ls' (.ref h.1 :: st)) :
    w_W p l e R s m args below meth c base aK b Q H locs cells slots pc ls (.int n :: st) := by
  have h1 := hw.2.2.1
  have h2 := hw.2.2.2
  refine va_newa hx hb harr hty hK hw.1 w_D hw.2.1 (fun q hq => by rw [hz0] at hq; exact Nat.le_trans (Nat.le_add_right base n0) hq) ha hn hN hbytes (by omega) (by omega) hd (fun q cA H1 hK1 hP1 hD1 hS1 => ?_)
  have hcA : cA = dA t := by
    have e1 := hpr s cA (hK1.2 5 (cA, t) rfl).2
    have e2 := hpr s (dA t) (hK.2 t0 (dA t, t) ht0).2
    exact Option.some.inj (e1.symm.trans e2)
  subst hcA
  exact sm_al (cl := .inl (t, a0)) hz0 hw hl hP1 hD1 hS1 kk
end SIM2
section SIM3
variable {p : Program} {l : Launch} {e : Env} {R : Room} {s : State} {m : MethodId} {args : Array Value} {below : List Frame} {meth : Method} {c : Code} {H : Heap} {locs : List Loc} {cells slots : Nat} {Q : State → Prop}
variable {base : Nat} {dC : Nat → ClassId} {dI : Nat → Nat → Nat} {dA : FieldType → ClassId} {aK aV : Nat → Nat} {b L : Nat} {xs : Nat → Int32} {n0 k0 mi : Nat}
variable {pc : Nat} {ls : Array Slot} {la : AL} {st : List Value} {h : AH}
theorem sm_cl {ci : Nat} {C : String} {T : u_T} {N : Nat} {ty : Nat → FieldType} (hc : c_R[ci]? = some (C, T, N, ty)) : a_cls[ci]? = some (C, T, N) ∧ c_Ok (C, T, N, ty) := by
  refine ⟨?_, c_all _ (List.mem_of_getElem? hc)⟩
  rw [a_cls_R, List.getElem?_map, hc]
  rfl
theorem sm_fl {o i : Nat} {r : AR} (hres : a_lk f_T o i = some r) : ∃ C T N ty, c_R[r.1]? = some (C, T, N, ty) ∧ r.2.1 < N ∧ .fieldLink (o_N.getD o "") i (T r.2.1).1 (T r.2.1).2.1 (T r.2.1).2.2.1 ∈ t_b := by
  have h1 := List.all_eq_true.mp f_all _ (a_lk_mem hres)
  obtain ⟨ci, k, q⟩ := r
  unfold f_ok at h1
  dsimp only at h1
  split at h1
  · rename_i C T N ty hc
    simp only [Bool.and_eq_true, decide_eq_true_eq] at h1
    exact ⟨C, T, N, ty, hc, h1.1, at_p_in h1.2⟩
  · cases h1
theorem sm_get {i a : Nat} {r : AR} {fs : List Value} {v : Value} (hx : p.tables.exec = Jvm.exec) (hb : c.code = m_b mi) (hown : s.vm.findClass (o_N.getD (m_o mi) "") = some m.cls) (hts : ∀ w ∈ t_b, w.before args s = true) (hK : va_K (dC, dI) a_cls (a_ty dA) s) (hP : va_P (dC, dI) a_cls (a_w base aK b dA h.1 h.2.2) H) (hres : a_lk f_T (m_o mi) i = some r) (ho : h_ob h a = some (r.1, fs)) (hv : fs[r.2.1]? = some v) (hd : decode (m_b mi) pc = .ok (.getfield i, 3))
    (kk : w_W p l e R s m args below meth c base aK b Q H locs cells slots (pc + 3) ls (v :: st)) : w_W p l e R s m args below meth c base aK b Q H locs cells slots pc ls (.ref a :: st) := by
  obtain ⟨C, T, N, ty, hc, hk, hlink⟩ := sm_fl hres
  obtain ⟨hcl, hok⟩ := sm_cl hc
  obtain ⟨hlt, hcell⟩ := h_ob_spec ho
  exact va_get (D := (dC, dI)) (ci := r.1) (v := c_v base aK b v) hx hb hts hok.1 hown hK hP a (sm_c hlt hcell) hcl r.2.1 hk (hts _ hlink) (fun _ z => z) (by rw [List.getElem?_map, hv]; rfl) hd kk
theorem sm_nar {t : FieldType} {v : Value} (hf : a_fk v = true) (h1 : narrow t v = v) : narrow t (c_v base aK b v) = c_v base aK b v := by
  cases v with
  | int x => exact h1
  | long x => exact h1
  | null => exact h1
  | ref x => cases t <;> rfl
  | float x => cases hf
  | double x => cases hf
  | retAddr x => cases hf
theorem sm_fit {t : FieldType} {v : Value} (hf : a_fk v = true) (h1 : fits t v = true) : fits t (c_v base aK b v) = true := by
  cases v with
  | int x => exact h1
  | long x => exact h1
  | null => exact h1
  | ref x => cases t <;> first | exact h1 | rfl
  | float x => cases hf
  | double x => cases hf
  | retAddr x => cases hf
theorem sm_put {i a : Nat} {r : AR} {fs : List Value} {v : Value} (hx : p.tables.exec = Jvm.exec) (hb : c.code = m_b mi) (hown : s.vm.findClass (o_N.getD (m_o mi) "") = some m.cls) (hts : ∀ w ∈ t_b, w.before args s = true) (hnm : (m_y mi).name = "<init>" → meth.name = "<init>") (hK : va_K (dC, dI) a_cls (a_ty dA) s) (hw : w_S s base dC dI dA aK b n0 k0 h H locs cells slots) (hres : a_lk f_T (m_o mi) i = some r) (ho : h_ob h a = some (r.1, fs)) (hk2 : r.2.1 < fs.length) (hp : a_put mi r.1 r.2.1 v = true) (hd : decode (m_b mi) pc = .ok (.putfield i, 3))
    (kk : ∀ (H' : Heap) (locs' : List Loc), w_S s base dC dI dA aK b n0 k0 (h_up h a (.inr (r.1, fs.set r.2.1 v))) H' locs' cells slots → w_W p l e R s m args below meth c base aK b Q H' locs' cells slots (pc + 3) ls st) : w_W p l e R s m args below meth c base aK b Q H locs cells slots pc ls (v :: .ref a :: st) := by
  obtain ⟨C, T, N, ty, hc, hk, hlink⟩ := sm_fl hres
  obtain ⟨hcl, hok⟩ := sm_cl hc
  obtain ⟨hlt, hcell⟩ := h_ob_spec ho
  obtain ⟨hP, hS, hn, hk0⟩ := hw
  unfold a_put at hp
  rw [hc] at hp
  simp only [Bool.and_eq_true, Bool.or_eq_true, Bool.not_eq_true', decide_eq_true_eq] at hp
  obtain ⟨⟨⟨⟨-, hf⟩, h1⟩, h2⟩, h3⟩ := hp
  have hset : ∀ (H1 : Heap), va_P (dC, dI) a_cls ((a_w base aK b dA h.1 h.2.2).set a (base + a, .inr (r.1, (fs.map (c_v base aK b)).set r.2.1 (c_v base aK b v)))) H1 → va_P (dC, dI) a_cls (a_w base aK b dA (h_up h a (.inr (r.1, fs.set r.2.1 v))).1 (h_up h a (.inr (r.1, fs.set r.2.1 v))).2.2) H1 := by
    intro H1 hP1
    have e : (base + a, (Sum.inr (r.1, (fs.map (c_v base aK b)).set r.2.1 (c_v base aK b v)) : va_E)) = (base + a, c_e base aK b dA (.inr (r.1, fs.set r.2.1 v))) := by
      show _ = (base + a, (Sum.inr (r.1, (fs.set r.2.1 v).map (c_v base aK b)) : va_E))
      rw [List.map_set]
    rw [e, w_set] at hP1
    exact hP1
  cases hfin : (T r.2.1).2.2.2 with
  | false => exact va_put (D := (dC, dI)) (ci := r.1) (v := c_v base aK b v) hx hb hts hok.1 ty hok.2.2.1 hok.2.1 hown hK hP w_D hS a (sm_c hlt hcell) hcl r.2.1 hk (hts _ hlink) (fun _ z => z) hfin (hok.2.2.1 _ hk) (sm_nar hf h1) (sm_fit hf h2) (by rw [List.length_map]; exact hk2) hd (fun H1 locs1 hP1 _ hS1 => kk H1 locs1 ⟨hset H1 hP1, hS1, hn, hk0⟩)
  | true =>
    have h4 := h3.resolve_left (by rw [hfin]; exact Bool.noConfusion)
    exact va_putF (D := (dC, dI)) (ci := r.1) (v := c_v base aK b v) hx hb hts hok.1 ty hok.2.2.1 hok.2.1 hown hK hP w_D hS a (sm_c hlt hcell) hcl r.2.1 hk (hts _ hlink) (fun _ z => z) hfin (hnm h4.2) h4.1 (hok.2.2.1 _ hk) (sm_nar hf h1) (sm_fit hf h2) (by rw [List.length_map]; exact hk2) hd (fun H1 locs1 hP1 _ hS1 => kk H1 locs1 ⟨hset H1 hP1, hS1, hn, hk0⟩)
theorem sm_dv {t : FieldType} (hf : a_fk (defaultValue t) = true) : c_v base aK b (defaultValue t) = defaultValue t := by
  cases t <;> first | rfl | cases hf
theorem sm_new {i : Nat} {r : AR} {fs : List Value} (hx : p.tables.exec = Jvm.exec) (hb : c.code = m_b mi) (hown : s.vm.findClass (o_N.getD (m_o mi) "") = some m.cls) (hts : ∀ w ∈ t_b, w.before args s = true) (hK : va_K (dC, dI) a_cls (a_ty dA) s) (hz0 : s.heap.size = base + n0) (hw : w_S s base dC dI dA aK b n0 k0 h H locs cells slots) (hl : lv_has ls (m_l mi) (c_l base aK b la)) (hres : a_lk n_T (m_o mi) i = some r) (hn : a_new r.1 = some fs) (hRc : n0 + R.cells ≥ h.1 + 1) (hRs : k0 + R.slots ≥ h.2.1 + r.2.1) (hd : decode (m_b mi) pc = .ok (.new i, 3))
    (kk : ∀ (H' : Heap) (locs' : List Loc) (cells' slots' : Nat) (ls' : Array Slot), lv_has ls' (m_l mi) (c_l base aK b la) → w_S s base dC dI dA aK b n0 k0 (h_ps h r.2.1 (.inr (r.1, fs))) H' locs' cells' slots' → w_W p l e R s m args below meth c base aK b Q H' locs' cells' slots' (pc + 3) ls' (.ref h.1 :: st)) : w_W p l e R s m args below meth c base aK b Q H locs cells slots pc ls st := by
  have h1 := List.all_eq_true.mp n_all _ (a_lk_mem hres)
  obtain ⟨ci, k, q⟩ := r
  unfold n_ok at h1
  dsimp only at h1 hn hRs kk
  cases hc : c_R[ci]? with
  | none => rw [hc] at h1; cases h1
  | some r' =>
    obtain ⟨C, T, N, ty⟩ := r'
    rw [hc] at h1
    simp only [Bool.and_eq_true, decide_eq_true_eq] at h1
    obtain ⟨rfl, hlink⟩ := h1
    obtain ⟨hcl, hok⟩ := sm_cl hc
    unfold a_new at hn
    rw [hc] at hn
    dsimp only at hn
    split at hn
    · rename_i hall
      have hfs : fs = (List.range k).map (fun j => defaultValue (ty j)) := (Option.some.inj hn).symm
      have g1 := hw.2.2.1
      have g2 := hw.2.2.2
      refine va_new (D := (dC, dI)) (ci := ci) (fs := fs.map (c_v base aK b)) hx hb hts hok.1 ty hok.2.2.1 hown (hts _ (at_p_in hlink)) (hts _ hok.2.2.2.1) (hts _ hok.2.2.2.2) hK hw.1 w_D hw.2.1 (fun q hq => by rw [hz0] at hq; exact Nat.le_trans (Nat.le_add_right base n0) hq) hcl (fun j hj => ?_) (by omega) (by show slots + k ≤ R.slots; omega) hd (fun q H1 hP1 hD1 hS1 => sm_al (cl := .inr (ci, fs)) hz0 hw hl hP1 hD1 hS1 kk)
      have hf := List.all_eq_true.mp hall j (List.mem_range.mpr hj)
      rw [hfs]
      unfold vp_V
      rw [List.getD_eq_getElem?_getD, List.getElem?_map, List.getElem?_map, List.getElem?_range hj]
      exact (sm_dv hf).symm
    · cases hn
end SIM3
end
section
section SIM4
variable {p : Program} {l : Launch} {e : Env} {R : Room} {s : State} {m : MethodId} {args : Array Value} {below : List Frame} {meth : Method} {c : Code} {H : Heap} {locs : List Loc} {cells slots : Nat} {Q : State → Prop}
variable {base : Nat} {dC : Nat → ClassId} {dI : Nat → Nat → Nat} {dA : FieldType → ClassId} {aK aV : Nat → Nat} {b L : Nat} {xs : Nat → Int32} {n0 k0 mi : Nat}
variable {pc : Nat} {ls : Array Slot} {la : AL} {st : List Value} {h : AH}
theorem s_fl : ∀ v, v < 9 → (¬ UInt32.ofNat v = 1000 ∧ ¬ UInt32.ofNat v = 3000) ∧ (UInt32.ofNat v).toNat = v := by decide
theorem sm_kl {o i : Nat} {r : AR} (hres : a_lk k_T o i = some r) : ∃ q, k_ok (((o, i), r), q) = true := k_is (a_lk_mem hres)
theorem s_k1 {k : UInt32} (h : k.toNat < 9) : ¬ k = 3000 ∧ ¬ k = 1000 := ⟨fun z => by subst z; exact absurd h (by decide), fun z => by subst z; exact absurd h (by decide)⟩
theorem s_k3 {k : UInt32} (h : 2000 ≤ k.toNat) (h2 : k.toNat < 2009) : ¬ k = 3000 := fun z => by subst z; exact absurd h2 (by decide)
theorem s_k4 {k : UInt32} (h : 2000 ≤ k.toNat) (h2 : k.toNat < 2009) : ¬ k = 1000 := fun z => by subst z; exact absurd h (by decide)
theorem s_k2 {k : UInt32} (h : k.toNat < 9) : ¬ UInt32.ofNat (2000 + k.toNat) = 3000 ∧ ¬ UInt32.ofNat (2000 + k.toNat) = 1000 ∧ (UInt32.ofNat (2000 + k.toNat)).toNat = 2000 + k.toNat := by
  have : ∀ n, n < 9 → ¬ UInt32.ofNat (2000 + n) = 3000 ∧ ¬ UInt32.ofNat (2000 + n) = 1000 ∧ (UInt32.ofNat (2000 + n)).toNat = 2000 + n := by decide
  exact this _ h
theorem sm_fr {i a : Nat} {r : AR} {fs : List Value} (hP : va_P (dC, dI) a_cls (a_w base aK b dA h.1 h.2.2) H) (hres : a_res mi (.getfield i) = some r) (ho : h_ob h a = some (r.1, fs)) : a_lk f_T (m_o mi) i = some r := by
  unfold a_res at hres
  dsimp only at hres
  split at hres
  · rename_i r' hr'
    rw [← hres]
    exact hr'
  · exfalso
    cases hg : a_lk g_T (m_o mi) i with
    | none => rw [hg] at hres; cases hres
    | some r' =>
      rw [hg] at hres
      have e : r = (100 + r'.1, r'.2) := (Option.some.inj hres).symm
      obtain ⟨hlt, hcell⟩ := h_ob_spec ho
      obtain ⟨q, e1, -⟩ := hP a _ (sm_c hlt hcell)
      have e2 : a_cls[r.1]? = some q := e1
      rw [e, List.getElem?_eq_none (by show a_cls.length ≤ 100 + r'.1; have : a_cls.length = 12 := rfl; omega)] at e2
      cases e2
theorem sm_g0 {i : Nat} {r : AR} (hres : a_res mi (.getfield i) = some r) (hk : 100 ≤ r.1) : ∃ r', a_lk g_T (m_o mi) i = some r' ∧ r.1 = 100 + r'.1 := by
  unfold a_res at hres
  dsimp only at hres
  split at hres
  · rename_i r' hr'
    exfalso
    obtain ⟨C, T, N, ty, hc, -⟩ := sm_fl hr'
    rw [Option.some.inj hres, List.getElem?_eq_none (by show c_R.length ≤ r.1; have : c_R.length = 12 := rfl; omega)] at hc
    cases hc
  · cases hg : a_lk g_T (m_o mi) i with
    | none => rw [hg] at hres; cases hres
    | some r' =>
      rw [hg] at hres
      exact ⟨r', rfl, by rw [← Option.some.inj hres]⟩
theorem sm_gr {i : Nat} {r : AR} (hres : a_res mi (.getfield i) = some r) (hk : r.1 = 100) : .fieldLink (o_N.getD (m_o mi) "") i "java/lang/String" "value" "[B" ∈ t_b := by
  obtain ⟨⟨k, v, q⟩, h1, h2⟩ := sm_g0 hres (by omega)
  have h3 := List.all_eq_true.mp g_all _ (a_lk_mem h1)
  have : k = 0 := by have : r.1 = 100 + k := h2; omega
  subst this
  exact at_p_in h3
theorem sm_gr1 {i : Nat} {r : AR} (hres : a_res mi (.getfield i) = some r) (hk : r.1 = 101) : .fieldLink (o_N.getD (m_o mi) "") i "java/lang/String" "coder" "B" ∈ t_b := by
  obtain ⟨⟨k, v, q⟩, h1, h2⟩ := sm_g0 hres (by omega)
  have h3 := List.all_eq_true.mp g_all _ (a_lk_mem h1)
  have : k = 1 := by have : r.1 = 100 + k := h2; omega
  subst this
  exact at_p_in h3
/-- Object.<init>, Math.min and max, System.arraycopy -/
theorem sm_nat (C : w_C p R s m args meth c base dC dI dA aK aV b L xs n0 mi) {i : Nat} {r : AR} (hk : a_lk k_T (m_o mi) i = some r) {pc' : Nat} {la' : AL} {st' : List Value} {h' : AH} (hs : a_nat mi pc r.1 la st h = some (.inl (pc', la', st', h'))) (hd : (r.1 = 4 → decode (m_b mi) pc = .ok (.invokespecial i, 3)) ∧ (r.1 = 5 ∨ r.1 = 6 ∨ r.1 = 7 → decode (m_b mi) pc = .ok (.invokestatic i, 3))) (hl : lv_has ls (m_l mi) (c_l base aK b la)) (hw : w_S s base dC dI dA aK b n0 k0 h H locs cells slots) (hRc : h'.1 ≤ n0 + R.cells) (hRs : h'.2.1 ≤ k0 + R.slots)
    (kk : ∀ (H' : Heap) (locs' : List Loc), la' = la → w_S s base dC dI dA aK b n0 k0 h' H' locs' cells slots → w_W p l e R s m args below meth c base aK b Q H' locs' cells slots pc' ls st') : w_W p l e R s m args below meth c base aK b Q H locs cells slots pc ls st := by
  obtain ⟨hx, hb, hml, hown, hts, hr, hlk, hnm, hK, hN, hZ, hV, hX, hbb, hz0, hav, hz1, hz2, hRf, hRl⟩ := C
  obtain ⟨q, hq⟩ := sm_kl hk
  obtain ⟨k, mj, n⟩ := r
  obtain ⟨p1, p2, p3⟩ := q
  obtain ⟨hP, hS, hc, hsl⟩ := id hw
  unfold a_nat at hs
  dsimp only at hs hd
  split at hs
  · rename_i a rest
    split at hs
    · rename_i hcnd
      obtain ⟨rfl, rfl, rfl, rfl⟩ := w_nx hs
      unfold a_nt at hcnd
      simp only [Bool.and_eq_true, decide_eq_true_eq] at hcnd
      refine W.objInit hx hb hown (hts _ (at_p_in hq)) (hts _ o_1) (hts _ o_2) rfl (by rw [hml]; exact hl.1) rfl (hd.1 rfl) (by omega) ?_ (kk H locs rfl hw)
      show 2 * 0 + _ + 12 ≤ _
      rw [c_sum]
      omega
    · cases hs
  · rename_i y x rest
    split at hs
    · rename_i hcnd
      obtain ⟨rfl, rfl, rfl, rfl⟩ := w_nx hs
      unfold a_nt at hcnd
      simp only [Bool.and_eq_true, decide_eq_true_eq] at hcnd
      refine va_mmin hx hb (by rw [hml]; exact hl.1.symm) hown (hts _ (at_p_in hq)) (hts _ o_min1) (hts _ o_m) (hts _ o_min2) (by omega) (by rw [c_sum]; omega) (by have : h'.1 ≤ _ := hRc; omega) (by have : h'.2.1 ≤ _ := hRs; omega) (hd.2 (by simp)) (kk H locs rfl hw)
    · cases hs
  · rename_i y x rest
    split at hs
    · rename_i hcnd
      obtain ⟨rfl, rfl, rfl, rfl⟩ := w_nx hs
      unfold a_nt at hcnd
      simp only [Bool.and_eq_true, decide_eq_true_eq] at hcnd
      refine va_mmax hx hb (by rw [hml]; exact hl.1.symm) hown (hts _ (at_p_in hq)) (hts _ o_max1) (hts _ o_m) (hts _ o_max2) (by omega) (by rw [c_sum]; omega) (by have : h'.1 ≤ _ := hRc; omega) (by have : h'.2.1 ≤ _ := hRs; omega) (hd.2 (by simp)) (kk H locs rfl hw)
    · cases hs
  · rename_i nn dp d sp sa rest
    split at hs
    · rename_i n0' f n1 g e0 e1
      split at hs
      · rename_i hcnd
        obtain ⟨rfl, rfl, rfl, rfl⟩ := w_nx hs
        obtain ⟨g0, g1, g2, g3, g4, g5, g6, g7, g8⟩ := hcnd
        unfold a_nt at g1
        simp only [Bool.and_eq_true, decide_eq_true_eq] at g0 g1
        obtain ⟨i0, i1⟩ := h_ai_spec e0
        obtain ⟨j0, j1⟩ := h_ai_spec e1
        refine va_copyi (D := (dC, dI)) hx hb (by rw [hml]; exact hl.1.symm) hown (hts _ (at_p_in hq)) (hts _ o_a1) (hts _ o_a2) (hts _ o_s) hK hP w_D hS sa d 2 2 (ty := .char) (sm_c i0 i1) (sm_c j0 j1) rfl rfl rfl g3 g4 g5 g6 g7 (fun i hi => List.all_eq_true.mp g8 i (List.mem_range.mpr hi)) (by omega) ?_ (hd.2 (by simp)) (fun H1 locs1 hP1 _ hS1 => kk H1 locs1 rfl ⟨sm_P (n := 0) (cl := .inl (.char, n1, .inl (va_cpy f g sp.toNatClampNeg dp.toNatClampNeg nn.toNatClampNeg))) hP1, hS1, hc, hsl⟩)
        rw [c_sum]
        have : nativeFrameWords "java/lang/System" "arraycopy" 5 ≤ 21 := by decide
        omega
      · cases hs
    · cases hs
  · cases hs
theorem sm_nc {k mj n : Nat} {pc' : Nat} {la' : AL} {st' : List Value} {h' : AH} : ¬ a_call mi k mj n st h = some (.inl (pc', la', st', h')) := by
  intro hs
  unfold a_call at hs
  repeat' first | (cases hs; done) | split at hs
set_option maxHeartbeats 4000000 in
/-- a step that is neither a call nor a return -/
theorem sm_nx (C : w_C p R s m args meth c base dC dI dA aK aV b L xs n0 mi) {i : Instr} {r : AR} (hi : a_ins mi pc = some (i, r)) {pc' : Nat} {la' : AL} {st' : List Value} {h' : AH} (hs : a_st L xs mi pc la st h i r = some (.inl (pc', la', st', h'))) (hl : lv_has ls (m_l mi) (c_l base aK b la)) (hw : w_S s base dC dI dA aK b n0 k0 h H locs cells slots) (hRc : h'.1 ≤ n0 + R.cells) (hRs : h'.2.1 ≤ k0 + R.slots)
    (kk : ∀ (H' : Heap) (locs' : List Loc) (cells' slots' : Nat) (ls' : Array Slot), lv_has ls' (m_l mi) (c_l base aK b la') → w_S s base dC dI dA aK b n0 k0 h' H' locs' cells' slots' → w_W p l e R s m args below meth c base aK b Q H' locs' cells' slots' pc' ls' st') : w_W p l e R s m args below meth c base aK b Q H locs cells slots pc ls st := by
  have C0 := C
  obtain ⟨hx, hb, hml, hown, hts, hr, hlk, hnm, hK, hN, hZ, hV, hX, hbb, hz0, hav, hz1, hz2, hRf, hRl⟩ := C
  obtain ⟨n, hd, hn, hres⟩ := a_ins_spec hi
  obtain ⟨hP, hS, hc, hsl⟩ := id hw
  have hbA : ¬ (fun q => base ≤ q) b := Nat.not_le.mpr hbb
  have hbl : b < s.heap.size := by omega
  unfold a_st at hs
  split at hs
  · obtain ⟨rfl, rfl, rfl, rfl⟩ := w_nx hs
    obtain rfl := w_len 0 hn rfl
    exact lv_iconst hx hb hd rfl (kk _ _ _ _ _ hl hw)
  · obtain ⟨rfl, rfl, rfl, rfl⟩ := w_nx hs
    obtain rfl := w_len 1 hn rfl
    exact lv_bipush hx hb hd rfl (kk _ _ _ _ _ hl hw)
  · obtain ⟨rfl, rfl, rfl, rfl⟩ := w_nx hs
    obtain rfl := w_len 2 hn rfl
    exact lv_sipush hx hb hd rfl (kk _ _ _ _ _ hl hw)
  · obtain ⟨rfl, rfl, rfl, rfl⟩ := w_nx hs
    obtain rfl := w_len 0 hn rfl
    exact lv_lconst hx hb hd rfl (kk _ _ _ _ _ hl hw)
  · rename_i x0
    obtain rfl := w_len 1 hn rfl
    have h1 := List.all_eq_true.mp d_all _ (a_lk_mem hres)
    obtain ⟨k0', v0, q0⟩ := r
    unfold d_ok at h1
    dsimp only at h1 hs
    split at hs
    · rename_i hk
      rw [if_pos hk] at h1
      obtain ⟨rfl, rfl, rfl, rfl⟩ := w_nx hs
      exact lv_ldc hx hb hown (hts _ (at_p_in h1)) hd (kk _ _ _ _ _ hl hw)
    · rename_i hk
      rw [if_neg hk] at h1
      obtain ⟨rfl, rfl, rfl, rfl⟩ := w_nx hs
      split at h1
      · rename_i c1 j1 tx hv
        simp only [decide_eq_true_eq] at h1
        obtain ⟨g1, g2, g3⟩ := h1
        have hz := hZ v0 g3
        have hso : s_O v0 = (c1, j1, tx) := by unfold s_O; rw [List.getD_eq_getElem?_getD, hv]; rfl
        rw [hso, g1, g2] at hz
        have hk2 := kk _ _ _ _ _ hl hw
        unfold w_W at hk2
        rw [List.map_cons, c_fk (s_fl v0 g3).1.2 (s_fl v0 g3).1.1, (s_fl v0 g3).2] at hk2
        exact va_ldcS hx hb hown hz hd hk2
      · cases h1
  · rename_i x0
    obtain rfl := w_len 2 hn rfl
    have h1 := List.all_eq_true.mp d_all _ (a_lk_mem hres)
    obtain ⟨k0', v0, q0⟩ := r
    unfold d_ok at h1
    dsimp only at h1 hs
    split at hs
    · rename_i hk
      rw [if_pos hk] at h1
      obtain ⟨rfl, rfl, rfl, rfl⟩ := w_nx hs
      exact lv_ldcw hx hb hown (hts _ (at_p_in h1)) hd (kk _ _ _ _ _ hl hw)
    · cases hs
  · obtain ⟨rfl, rfl, rfl, rfl⟩ := w_nx hs
    obtain rfl := w_len 2 hn rfl
    have h1 := List.all_eq_true.mp l_all _ (a_lk_mem hres)
    obtain ⟨k0', v0, q0⟩ := r
    exact lv_ldc2 hx hb hown (hts _ (at_p_in h1)) hd (kk _ _ _ _ _ hl hw)
  · obtain rfl := w_len 0 hn rfl
    split at hs
    · rename_i x hg
      obtain ⟨rfl, rfl, rfl, rfl⟩ := w_nx hs
      exact lv_iload_n hx hb hd rfl (c_g hl hg) (kk _ _ _ _ _ hl hw)
    · cases hs
  · obtain rfl := w_len 1 hn rfl
    split at hs
    · rename_i x hg
      obtain ⟨rfl, rfl, rfl, rfl⟩ := w_nx hs
      exact lv_iload hx hb hd (c_g hl hg) (kk _ _ _ _ _ hl hw)
    · cases hs
  · obtain rfl := w_len 0 hn rfl
    split at hs
    · rename_i x hg
      obtain ⟨rfl, rfl, rfl, rfl⟩ := w_nx hs
      exact lv_lload_n hx hb hd rfl (c_g hl hg) (kk _ _ _ _ _ hl hw)
    · cases hs
  · obtain rfl := w_len 1 hn rfl
    split at hs
    · rename_i x hg
      obtain ⟨rfl, rfl, rfl, rfl⟩ := w_nx hs
      exact lv_lload hx hb hd (c_g hl hg) (kk _ _ _ _ _ hl hw)
    · cases hs
  · obtain rfl := w_len 0 hn rfl
    split at hs
    · rename_i x hg
      obtain ⟨rfl, rfl, rfl, rfl⟩ := w_nx hs
      exact lv_aload_n hx hb hd rfl (c_g hl hg) (kk _ _ _ _ _ hl hw)
    · rename_i x hg
      split at hs
      · cases hs
      · rename_i hne
        obtain ⟨rfl, rfl, rfl, rfl⟩ := w_nx hs
        have hg2 := c_g hl hg
        rw [c_fl hne] at hg2
        have hk2 := kk _ _ _ _ _ hl hw
        unfold w_W at hk2
        rw [List.map_cons, c_fl hne] at hk2
        exact lv_aload_n hx hb hd rfl hg2 hk2
    · cases hs
  · obtain rfl := w_len 1 hn rfl
    split at hs
    · rename_i x hg
      obtain ⟨rfl, rfl, rfl, rfl⟩ := w_nx hs
      exact lv_aload hx hb hd (c_g hl hg) (kk _ _ _ _ _ hl hw)
    · rename_i x hg
      split at hs
      · cases hs
      · rename_i hne
        obtain ⟨rfl, rfl, rfl, rfl⟩ := w_nx hs
        have hg2 := c_g hl hg
        rw [c_fl hne] at hg2
        have hk2 := kk _ _ _ _ _ hl hw
        unfold w_W at hk2
        rw [List.map_cons, c_fl hne] at hk2
        exact lv_aload hx hb hd hg2 hk2
    · cases hs
  · rename_i k x st
    obtain rfl := w_len 0 hn rfl
    split at hs
    · rename_i hk
      obtain ⟨rfl, rfl, rfl, rfl⟩ := w_nx hs
      exact lv_istore_n hx hb hd rfl hl hk rfl (fun ls2 hl2 => kk _ _ _ _ _ (c_s (base := base) (aK := aK) (b := b) (v := .int x) hl2) hw)
    · cases hs
  · rename_i k x st
    obtain rfl := w_len 1 hn rfl
    split at hs
    · rename_i hk
      obtain ⟨rfl, rfl, rfl, rfl⟩ := w_nx hs
      exact lv_istore hx hb hd hl hk rfl (fun ls2 hl2 => kk _ _ _ _ _ (c_s (base := base) (aK := aK) (b := b) (v := .int x) hl2) hw)
    · cases hs
  · rename_i k x st
    obtain rfl := w_len 0 hn rfl
    split at hs
    · rename_i hk
      obtain ⟨rfl, rfl, rfl, rfl⟩ := w_nx hs
      exact lv_astore_n hx hb hd rfl hl hk rfl (fun ls2 hl2 => kk _ _ _ _ _ (c_s (base := base) (aK := aK) (b := b) (v := .ref x) hl2) hw)
    · cases hs
  · rename_i k x st
    obtain rfl := w_len 1 hn rfl
    split at hs
    · rename_i hk
      obtain ⟨rfl, rfl, rfl, rfl⟩ := w_nx hs
      exact lv_astore hx hb hd hl hk rfl (fun ls2 hl2 => kk _ _ _ _ _ (c_s (base := base) (aK := aK) (b := b) (v := .ref x) hl2) hw)
    · cases hs
  · rename_i k x st
    obtain rfl := w_len 0 hn rfl
    split at hs
    · rename_i hk
      obtain ⟨rfl, rfl, rfl, rfl⟩ := w_nx hs
      exact lv_lstore_n hx hb hd rfl hl hk rfl (fun ls2 hl2 => kk _ _ _ _ _ (c_s2 (base := base) (aK := aK) (b := b) (v := .long x) hl2) hw)
    · cases hs
  · rename_i k x st
    obtain rfl := w_len 1 hn rfl
    split at hs
    · rename_i hk
      obtain ⟨rfl, rfl, rfl, rfl⟩ := w_nx hs
      exact lv_lstore hx hb hd hl hk rfl (fun ls2 hl2 => kk _ _ _ _ _ (c_s2 (base := base) (aK := aK) (b := b) (v := .long x) hl2) hw)
    · cases hs
  · rename_i k v st
    obtain rfl := w_len 2 hn rfl
    split at hs
    · rename_i x hg
      split at hs
      · rename_i hk
        obtain ⟨rfl, rfl, rfl, rfl⟩ := w_nx hs
        obtain ⟨j, hj⟩ := List.getElem?_of_mem (l_g_mem hg)
        exact lv_iinc (k := j) (x := x) hx hb hd hl (by unfold c_l; rw [List.getElem?_map, hj]; rfl) rfl hk rfl (fun ls2 hl2 => kk _ _ _ _ _ (c_s (base := base) (aK := aK) (b := b) (v := .int (x + Int32.ofInt _)) hl2) hw)
      · cases hs
    · cases hs
  · obtain ⟨rfl, rfl, rfl, rfl⟩ := w_nx hs
    obtain rfl := w_len 0 hn rfl
    exact lv_iadd hx hb hd (kk _ _ _ _ _ hl hw)
  · obtain ⟨rfl, rfl, rfl, rfl⟩ := w_nx hs
    obtain rfl := w_len 0 hn rfl
    exact lv_isub hx hb hd (kk _ _ _ _ _ hl hw)
  · obtain ⟨rfl, rfl, rfl, rfl⟩ := w_nx hs
    obtain rfl := w_len 0 hn rfl
    exact lv_imul hx hb hd (kk _ _ _ _ _ hl hw)
  · obtain rfl := w_len 0 hn rfl
    split at hs
    · cases hs
    · rename_i hy
      obtain ⟨rfl, rfl, rfl, rfl⟩ := w_nx hs
      exact lv_idiv hx hb hd hy (kk _ _ _ _ _ hl hw)
  · obtain rfl := w_len 0 hn rfl
    split at hs
    · cases hs
    · rename_i hy
      obtain ⟨rfl, rfl, rfl, rfl⟩ := w_nx hs
      exact lv_irem hx hb hd hy (kk _ _ _ _ _ hl hw)
  · obtain ⟨rfl, rfl, rfl, rfl⟩ := w_nx hs
    obtain rfl := w_len 0 hn rfl
    exact lv_iand hx hb hd (kk _ _ _ _ _ hl hw)
  · obtain ⟨rfl, rfl, rfl, rfl⟩ := w_nx hs
    obtain rfl := w_len 0 hn rfl
    exact lv_ior hx hb hd (kk _ _ _ _ _ hl hw)
  · obtain ⟨rfl, rfl, rfl, rfl⟩ := w_nx hs
    obtain rfl := w_len 0 hn rfl
    exact lv_ishl hx hb hd (kk _ _ _ _ _ hl hw)
  · obtain ⟨rfl, rfl, rfl, rfl⟩ := w_nx hs
    obtain rfl := w_len 0 hn rfl
    exact lv_ishr hx hb hd (kk _ _ _ _ _ hl hw)
  · obtain ⟨rfl, rfl, rfl, rfl⟩ := w_nx hs
    obtain rfl := w_len 0 hn rfl
    exact lv_iushr hx hb hd rfl (kk _ _ _ _ _ hl hw)
  · obtain ⟨rfl, rfl, rfl, rfl⟩ := w_nx hs
    obtain rfl := w_len 0 hn rfl
    exact lv_ladd hx hb hd (kk _ _ _ _ _ hl hw)
  · obtain ⟨rfl, rfl, rfl, rfl⟩ := w_nx hs
    obtain rfl := w_len 0 hn rfl
    exact lv_lor hx hb hd (kk _ _ _ _ _ hl hw)
  · obtain ⟨rfl, rfl, rfl, rfl⟩ := w_nx hs
    obtain rfl := w_len 0 hn rfl
    exact lv_lshl hx hb hd rfl (kk _ _ _ _ _ hl hw)
  · obtain ⟨rfl, rfl, rfl, rfl⟩ := w_nx hs
    obtain rfl := w_len 0 hn rfl
    exact W.lcmp hx hb hd (kk _ _ _ _ _ hl hw)
  · obtain ⟨rfl, rfl, rfl, rfl⟩ := w_nx hs
    obtain rfl := w_len 0 hn rfl
    exact lv_i2l hx hb hd rfl (kk _ _ _ _ _ hl hw)
  · obtain ⟨rfl, rfl, rfl, rfl⟩ := w_nx hs
    obtain rfl := w_len 0 hn rfl
    exact lv_i2c hx hb hd rfl (kk _ _ _ _ _ hl hw)
  · obtain ⟨rfl, rfl, rfl, rfl⟩ := w_nx hs
    obtain rfl := w_len 0 hn rfl
    exact lv_i2b hx hb hd rfl (kk _ _ _ _ _ hl hw)
  · obtain rfl := w_len 0 hn rfl
    split at hs
    · rename_i hv
      obtain ⟨rfl, rfl, rfl, rfl⟩ := w_nx hs
      exact lv_dup hx hb hd ((c_cat _).trans hv) (kk _ _ _ _ _ hl hw)
    · cases hs
  · obtain rfl := w_len 0 hn rfl
    split at hs
    · rename_i hv
      obtain ⟨rfl, rfl, rfl, rfl⟩ := w_nx hs
      exact lv_pop hx hb hd ((c_cat _).trans hv) (kk _ _ _ _ _ hl hw)
    · cases hs
  · obtain rfl := w_len 0 hn rfl
    split at hs
    · rename_i hv
      obtain ⟨rfl, rfl, rfl, rfl⟩ := w_nx hs
      exact lv_pop2_2 hx hb hd ((c_cat _).trans hv) (kk _ _ _ _ _ hl hw)
    · cases hs
  · obtain rfl := w_len 0 hn rfl
    split at hs
    · rename_i hv
      obtain ⟨rfl, rfl, rfl, rfl⟩ := w_nx hs
      exact lv_dup2_11 hx hb hd ((c_cat _).trans hv.1) ((c_cat _).trans hv.2) (kk _ _ _ _ _ hl hw)
    · cases hs
  · obtain rfl := w_len 2 hn rfl
    exact sm_if hx hb hd hs (fun e1 e2 => by subst e1; subst e2; exact kk _ _ _ _ _ hl hw)
  · obtain rfl := w_len 2 hn rfl
    exact sm_ic hx hb hd hs (fun e1 e2 => by subst e1; subst e2; exact kk _ _ _ _ _ hl hw)
  · obtain rfl := w_len 2 hn rfl
    obtain ⟨ht, rfl, rfl, rfl⟩ := w_go hs
    exact lv_goto hx hb hd ht (kk _ _ _ _ _ hl hw)
  · split at hs
    · rename_i ho
      obtain ⟨ht, rfl, rfl, rfl⟩ := w_go hs
      exact lv_tableOut hx hb hd ho ht (kk _ _ _ _ _ hl hw)
    · rename_i ho
      split at hs
      · rename_i off hoff
        obtain ⟨ht, rfl, rfl, rfl⟩ := w_go hs
        exact lv_tableIn hx hb hd (fun z => ho (Or.inl z)) (fun z => ho (Or.inr z)) hoff ht (kk _ _ _ _ _ hl hw)
      · cases hs
  · split at hs
    · rename_i hp
      obtain ⟨ht, rfl, rfl, rfl⟩ := w_go hs
      exact lv_lookup hx hb hd hp rfl ht (kk _ _ _ _ _ hl hw)
    · cases hs
  · rename_i a st
    obtain rfl := w_len 0 hn rfl
    split at hs
    · rename_i hlt
      split at hs
      · rename_i t0 n0' g0 hcell
        split at hs
        · rename_i hti
          obtain ⟨rfl, rfl, rfl, rfl⟩ := w_nx hs
          obtain ⟨j, hj⟩ : ∃ j, (a_ty dA)[j]? = some (dA t0, t0) := by cases t0 <;> first | exact ⟨0, rfl⟩ | exact ⟨1, rfl⟩ | exact ⟨2, rfl⟩ | exact ⟨3, rfl⟩ | exact ⟨4, rfl⟩ | cases hti
          exact va_alen (D := (dC, dI)) hx hb hK hP a j (sm_c hlt hcell) hj rfl hd (kk _ _ _ _ _ hl hw)
        · cases hs
      · cases hs
    · cases hs
  · rename_i kq st
    obtain rfl := w_len 0 hn rfl
    split at hs
    · rename_i hk
      obtain ⟨rfl, rfl, rfl, rfl⟩ := w_nx hs
      subst hk
      unfold w_W
      rw [List.map_cons, c_fl (by decide), if_pos rfl]
      exact va_slen hx hb hX hbl hbA hS hd (kk _ _ _ _ _ hl hw)
    · rename_i hk
      split at hs
      · rename_i hq
        obtain ⟨rfl, rfl, rfl, rfl⟩ := w_nx hs
        have hi9 : (kq.toNat - 2000) < 9 := by omega
        have ha := hav _ hi9
        rw [show 2000 + (kq.toNat - 2000) = kq.toNat by omega] at ha
        have hT := (hV.1 _ hi9).2.2.2
        rw [ha] at hT
        unfold w_W
        rw [List.map_cons, c_fk (s_k3 hq.1 hq.2) hk]
        exact va_tlen hx hb hT hS rfl hd (kk _ _ _ _ _ hl hw)
      · cases hs
  · rename_i j a st
    obtain rfl := w_len 0 hn rfl
    split at hs
    · rename_i v hv
      obtain ⟨rfl, rfl, rfl, rfl⟩ := w_nx hs
      obtain ⟨n1, f1, hlt, hcell, hin, rfl⟩ := a_ld_spec hv
      exact va_iald (D := (dC, dI)) hx hb hK hP a 0 (sm_c hlt hcell) rfl hin hd (kk _ _ _ _ _ hl hw)
    · cases hs
  · obtain rfl := w_len 0 hn rfl
    split at hs
    · rename_i hk
      obtain ⟨rfl, rfl, rfl, rfl⟩ := w_nx hs
      obtain ⟨rfl, hin⟩ := hk
      unfold w_W
      rw [List.map_cons, List.map_cons, c_fl (by decide), if_pos rfl]
      exact va_sld hx hb hX hbl hbA hS (a_inb_in hin) hd (kk _ _ _ _ _ hl hw)
    · cases hs
  · rename_i j a st
    obtain rfl := w_len 0 hn rfl
    split at hs
    · rename_i v hv
      obtain ⟨rfl, rfl, rfl, rfl⟩ := w_nx hs
      obtain ⟨n1, f1, hlt, hcell, hin, rfl⟩ := a_ld_spec hv
      exact va_cald (D := (dC, dI)) hx hb hK hP a 2 (sm_c hlt hcell) rfl hin hd (kk _ _ _ _ _ hl hw)
    · cases hs
  · rename_i j a st
    obtain rfl := w_len 0 hn rfl
    split at hs
    · rename_i v hv
      obtain ⟨rfl, rfl, rfl, rfl⟩ := w_nx hs
      obtain ⟨n1, f1, hlt, hcell, hin, rfl⟩ := a_ld_spec hv
      exact va_bald (D := (dC, dI)) hx hb hK hP a 1 (sm_c hlt hcell) rfl hin hd (kk _ _ _ _ _ hl hw)
    · split at hs
      · rename_i v hv
        obtain ⟨rfl, rfl, rfl, rfl⟩ := w_nx hs
        obtain ⟨n1, f1, hlt, hcell, hin, rfl⟩ := a_ld_spec hv
        exact va_zald (D := (dC, dI)) hx hb hK hP a 3 (sm_c hlt hcell) rfl hin hd (kk _ _ _ _ _ hl hw)
      · cases hs
  · rename_i j a st
    obtain rfl := w_len 0 hn rfl
    split at hs
    · rename_i n1 f1 hv
      split at hs
      · rename_i hin
        obtain ⟨rfl, rfl, rfl, rfl⟩ := w_nx hs
        obtain ⟨hlt, hcell⟩ := h_al_spec hv
        exact va_lald (D := (dC, dI)) hx hb hK hP a 4 (sm_c hlt hcell) rfl (a_inb_in hin) hd (kk _ _ _ _ _ hl hw)
      · cases hs
    · cases hs
  · rename_i x j a st
    obtain rfl := w_len 0 hn rfl
    split at hs
    · rename_i h2 hv
      obtain ⟨rfl, rfl, rfl, rfl⟩ := w_nx hs
      obtain ⟨n1, f1, hlt, hcell, hin, rfl⟩ := a_sv_spec hv
      exact va_iast (D := (dC, dI)) hx hb hK hP w_D hS a 0 (sm_c hlt hcell) rfl hin hd (fun H1 locs1 hP1 _ hS1 => kk H1 locs1 cells slots ls hl ⟨sm_P (n := 0) (cl := .inl (.int, n1, .inl (upd f1 j.toNatClampNeg x))) hP1, hS1, hc, hsl⟩)
    · cases hs
  · rename_i x j a st
    obtain rfl := w_len 0 hn rfl
    split at hs
    · rename_i h2 hv
      obtain ⟨rfl, rfl, rfl, rfl⟩ := w_nx hs
      obtain ⟨n1, f1, hlt, hcell, hin, rfl⟩ := a_sv_spec hv
      exact va_cast (D := (dC, dI)) hx hb hK hP w_D hS a 2 (sm_c hlt hcell) rfl hin hd (fun H1 locs1 hP1 _ hS1 => kk H1 locs1 cells slots ls hl ⟨sm_P (n := 0) (cl := .inl (.char, n1, .inl (upd f1 j.toNatClampNeg (vp_nar .char x)))) hP1, hS1, hc, hsl⟩)
    · cases hs
  · rename_i x j a st
    obtain rfl := w_len 0 hn rfl
    split at hs
    · rename_i h2 hv
      obtain ⟨rfl, rfl, rfl, rfl⟩ := w_nx hs
      obtain ⟨n1, f1, hlt, hcell, hin, rfl⟩ := a_sv_spec hv
      exact va_bast (D := (dC, dI)) hx hb hK hP w_D hS a 1 (sm_c hlt hcell) rfl hin hd (fun H1 locs1 hP1 _ hS1 => kk H1 locs1 cells slots ls hl ⟨sm_P (n := 0) (cl := .inl (.byte, n1, .inl (upd f1 j.toNatClampNeg (vp_nar .byte x)))) hP1, hS1, hc, hsl⟩)
    · split at hs
      · rename_i h2 hv
        obtain ⟨rfl, rfl, rfl, rfl⟩ := w_nx hs
        obtain ⟨n1, f1, hlt, hcell, hin, rfl⟩ := a_sv_spec hv
        exact va_zast (D := (dC, dI)) hx hb hK hP w_D hS a 3 (sm_c hlt hcell) rfl hin hd (fun H1 locs1 hP1 _ hS1 => kk H1 locs1 cells slots ls hl ⟨sm_P (n := 0) (cl := .inl (.boolean, n1, .inl (upd f1 j.toNatClampNeg (vp_nar .boolean x)))) hP1, hS1, hc, hsl⟩)
      · cases hs
  · rename_i x j a st
    obtain rfl := w_len 0 hn rfl
    split at hs
    · rename_i n1 f1 hv
      split at hs
      · rename_i hin
        obtain ⟨rfl, rfl, rfl, rfl⟩ := w_nx hs
        obtain ⟨hlt, hcell⟩ := h_al_spec hv
        exact va_last (D := (dC, dI)) hx hb hK hP w_D hS a 4 (sm_c hlt hcell) rfl (a_inb_in hin) hd (fun H1 locs1 hP1 _ hS1 => kk H1 locs1 cells slots ls hl ⟨sm_P (n := 0) (cl := .inl (.long, n1, .inr (.inl (vp_updL f1 j.toNatClampNeg x)))) hP1, hS1, hc, hsl⟩)
      · cases hs
    · cases hs
  · rename_i t nn st
    obtain rfl := w_len 1 hn rfl
    split at hs
    · rename_i cl hcl
      split at hs
      · rename_i hq
        obtain ⟨rfl, rfl, rfl, rfl⟩ := w_nx hs
        cases t
        · cases hcl
          exact sm_nA (atype := .boolean) (t := .boolean) (t0 := 3) (a0 := (nn.toNatClampNeg, .inl (fun _ => 0))) hx hb (hts _ o_tboolean) rfl rfl (fun _ _ z => z) hK hz0 hw hl (fun _ => rfl) hq.1 rfl (Nat.le_trans (Nat.mul_le_mul_left _ (by decide)) hq.2) hRc hRs hd kk
        · cases hcl
          exact sm_nA (atype := .char) (t := .char) (t0 := 2) (a0 := (nn.toNatClampNeg, .inl (fun _ => 0))) hx hb (hts _ o_tchar) rfl rfl (fun _ _ z => z) hK hz0 hw hl (fun _ => rfl) hq.1 rfl (Nat.le_trans (Nat.mul_le_mul_left _ (by decide)) hq.2) hRc hRs hd kk
        · cases hcl
        · cases hcl
        · cases hcl
          exact sm_nA (atype := .byte) (t := .byte) (t0 := 1) (a0 := (nn.toNatClampNeg, .inl (fun _ => 0))) hx hb (hts _ o_tbyte) rfl rfl (fun _ _ z => z) hK hz0 hw hl (fun _ => rfl) hq.1 rfl (Nat.le_trans (Nat.mul_le_mul_left _ (by decide)) hq.2) hRc hRs hd kk
        · cases hcl
        · cases hcl
          exact sm_nA (atype := .int) (t := .int) (t0 := 0) (a0 := (nn.toNatClampNeg, .inl (fun _ => 0))) hx hb (hts _ o_tint) rfl rfl (fun _ _ z => z) hK hz0 hw hl (fun _ => rfl) hq.1 rfl (Nat.le_trans (Nat.mul_le_mul_left _ (by decide)) hq.2) hRc hRs hd kk
        · cases hcl
          exact sm_nA (atype := .long) (t := .long) (t0 := 4) (a0 := (nn.toNatClampNeg, .inr (.inl (fun _ => 0)))) hx hb (hts _ o_tlong) rfl rfl (fun _ _ z => z) hK hz0 hw hl (fun _ => rfl) hq.1 rfl (Nat.le_trans (Nat.mul_le_mul_left _ (by decide)) hq.2) hRc hRs hd kk
      · cases hs
    · cases hs
  · obtain rfl := w_len 2 hn rfl
    split at hs
    · rename_i fs hfs
      obtain ⟨rfl, rfl, rfl, rfl⟩ := w_nx hs
      exact sm_new hx hb hown hts hK hz0 hw hl hres hfs hRc hRs hd kk
    · cases hs
  · obtain rfl := w_len 2 hn rfl
    split at hs
    · rename_i ci fs ho
      split at hs
      · rename_i hci
        subst hci
        split at hs
        · rename_i v hv
          obtain ⟨rfl, rfl, rfl, rfl⟩ := w_nx hs
          exact sm_get hx hb hown hts hK hP (sm_fr hP hres ho) ho hv hd (kk _ _ _ _ _ hl hw)
        · cases hs
      · cases hs
    · cases hs
  · obtain rfl := w_len 2 hn rfl
    split at hs
    · rename_i ci fs ho
      split at hs
      · rename_i hci
        obtain ⟨rfl, h2, h3⟩ := hci
        obtain ⟨rfl, rfl, rfl, rfl⟩ := w_nx hs
        exact sm_put hx hb hown hts hnm hK hw hres ho h2 h3 hd (fun H1 locs1 hw1 => kk H1 locs1 _ _ _ hl hw1)
      · cases hs
    · cases hs
  · obtain rfl := w_len 2 hn rfl
    split at hs
    · exact absurd hs (sm_nc)
    · cases hs
  · obtain rfl := w_len 2 hn rfl
    split at hs
    · exact absurd hs (sm_nc)
    · split at hs
      · rename_i hk5
        exact sm_nat C0 hres hs ⟨fun z => by rw [z] at hk5; exact absurd hk5 (by decide), fun _ => hd⟩ hl hw hRc hRs (fun H1 locs1 e1 hw1 => kk H1 locs1 _ _ _ (by rw [e1]; exact hl) hw1)
      · cases hs
  · obtain rfl := w_len 2 hn rfl
    split at hs
    · exact absurd hs (sm_nc)
    · split at hs
      · rename_i hk4
        exact sm_nat C0 hres hs ⟨fun _ => hd, fun z => by rw [hk4] at z; exact absurd z (by decide)⟩ hl hw hRc hRs (fun H1 locs1 e1 hw1 => kk H1 locs1 _ _ _ (by rw [e1]; exact hl) hw1)
      · cases hs
  · split at hs
    · split at hs <;> cases hs
    · cases hs
  · split at hs <;> cases hs
  · split at hs <;> cases hs
  · obtain rfl := w_len 2 hn rfl
    have h1 := List.all_eq_true.mp g_all _ (a_lk_mem hres)
    obtain ⟨kz, vz, pz⟩ := r
    dsimp only at hs
    split at hs
    · rename_i hk
      obtain ⟨rfl, rfl, rfl, rfl⟩ := w_nx hs
      subst hk
      exact va_gets hx hb hz1 hS hown (hts _ (at_p_in h1)) (fun _ z => z) hd (kk _ _ _ _ _ hl hw)
    · split at hs
      · rename_i hk
        obtain ⟨rfl, rfl, rfl, rfl⟩ := w_nx hs
        subst hk
        exact va_gets hx hb hz2 hS hown (hts _ (at_p_in h1)) (fun _ z => z) hd (kk _ _ _ _ _ hl hw)
      · cases hs
  · rename_i kq st
    obtain rfl := w_len 2 hn rfl
    split at hs
    · rename_i hq
      obtain ⟨rfl, rfl, rfl, rfl⟩ := w_nx hs
      have h1 := sm_gr hres hq.2
      have hk2 := kk _ _ _ _ _ hl hw
      unfold w_W at hk2 ⊢
      have e1 := s_k2 hq.1
      rw [List.map_cons, c_fk e1.1 e1.2.1, e1.2.2, ← hav _ hq.1] at hk2
      rw [List.map_cons, c_fk (s_k1 hq.1).1 (s_k1 hq.1).2]
      exact vk_getf hx hb (hV.1 _ hq.1).2.2.1 hS hown (hts _ h1) (fun _ z => z) hd hk2
    · split at hs
      · rename_i hq
        obtain ⟨rfl, rfl, rfl, rfl⟩ := w_nx hs
        have h1 := sm_gr1 hres hq.2
        unfold w_W
        rw [List.map_cons, c_fk (s_k1 hq.1).1 (s_k1 hq.1).2]
        exact vk_getf hx hb (hV.1 _ hq.1).2.1 hS hown (hts _ h1) (fun _ z => z) hd (kk _ _ _ _ _ hl hw)
      · cases hs
  · rename_i jq kq st
    obtain rfl := w_len 0 hn rfl
    split at hs
    · rename_i hq
      obtain ⟨rfl, rfl, rfl, rfl⟩ := w_nx hs
      have hi9 : (kq.toNat - 2000) < 9 := by omega
      have ha := hav _ hi9
      rw [show 2000 + (kq.toNat - 2000) = kq.toNat by omega] at ha
      have hT := (hV.1 _ hi9).2.2.2
      rw [ha] at hT
      unfold w_W
      rw [List.map_cons, List.map_cons, c_fk (s_k3 hq.1.1 hq.1.2) (s_k4 hq.1.1 hq.1.2)]
      exact va_tb hx hb hT hS (a_inb_in hq.2) rfl hd (kk _ _ _ _ _ hl hw)
    · cases hs
  · cases hs
end SIM4
end
section
section SIM5
variable {p : Program} {l : Launch} {e : Env} {R : Room} {s : State} {m : MethodId} {args : Array Value} {below : List Frame} {meth : Method} {c : Code} {H : Heap} {locs : List Loc} {cells slots : Nat} {Q : State → Prop}
variable {base : Nat} {dC : Nat → ClassId} {dI : Nat → Nat → Nat} {dA : FieldType → ClassId} {aK aV : Nat → Nat} {b L : Nat} {xs : Nat → Int32} {n0 k0 mi : Nat}
variable {pc : Nat} {ls : Array Slot} {la : AL} {st : List Value} {h : AH}
/-- the words that method mi's contract asks for -/
def w_m (mi : Nat) : List Cond := .code (m_y mi) (m_b mi) (m_l mi) (m_r mi) :: t_b
/-- a state from which method mi may begin: its world -/
def w_P (base : Nat) (dC : Nat → ClassId) (dI : Nat → Nat → Nat) (dA : FieldType → ClassId) (aK aV : Nat → Nat) (b L : Nat) (xs : Nat → Int32) (h : AH) (U : State) : Prop :=
  U.heap.size = base + h.1 ∧ va_P (dC, dI) a_cls (a_w base aK b dA h.1 h.2.2) U.heap ∧ va_K (dC, dI) a_cls (a_ty dA) U ∧ (∀ w ∈ w_N, va_Nw w U) ∧ (∀ i, i < 9 → vk_R (s_O i).1 (s_O i).2.1 (s_O i).2.2 (aK i) U) ∧ vk_S 9 s_L s_B aK aV (fun q => base ≤ q) U U.heap ∧ va_X b L xs U U.heap ∧ b < base ∧ (∀ i, i < 9 → aV i = aK (2000 + i)) ∧ va_Z "java/lang/String" "COMPACT_STRINGS" "Z" (.int 1) (fun q => base ≤ q) U U.heap ∧ va_Z "jdk/internal/util/Preconditions" "SIOOBE_FORMATTER" "Ljava/util/function/BiFunction;" (c_v base aK b (.float 3000)) (fun q => base ≤ q) U U.heap
def w_Pc (base : Nat) (dC : Nat → ClassId) (dI : Nat → Nat → Nat) (dA : FieldType → ClassId) (aK aV : Nat → Nat) (b L : Nat) (xs : Nat → Int32) (as : List Value) (h : AH) : Array Value → State → Prop := va_Pc (as.map (c_v base aK b)) (w_P base dC dI dA aK aV b L xs h)
def w_Q (base : Nat) (dC : Nat → ClassId) (dI : Nat → Nat → Nat) (dA : FieldType → ClassId) (aK : Nat → Nat) (b : Nat) (r : Option Value) (h' : AH) : Array Value → State → Outcome → State → Prop := fun _ st o t =>
  o = .returned (r.map (c_v base aK b)) ∧ va_P (dC, dI) a_cls (a_w base aK b dA h'.1 h'.2.2) t.heap ∧ va_F (fun q => base ≤ q) st t
/-- method mi does what the abstract machine's run from h with arguments as says: answer r, cells h' -/
def w_Met (l : Launch) (base : Nat) (dC : Nat → ClassId) (dI : Nat → Nat → Nat) (dA : FieldType → ClassId) (aK aV : Nat → Nat) (b L : Nat) (xs : Nat → Int32) (mi : Nat) (as : List Value) (h : AH) (r : Option Value) (h' : AH) : Prop :=
  Met l (m_y mi) (w_m mi) { frames := m_f mi, cells := h'.1 - h.1, slots := h'.2.1 - h.2.1, locals := m_w mi } (w_Pc base dC dI dA aK aV b L xs as h) (w_Q base dC dI dA aK b r h') (h'.1 - h.1) (h'.2.1 - h.2.1) (fun q => base ≤ q)
theorem w_nN {w : Cond} {u U : State} (hw : w ∈ w_N) (hW : u.WarmedH U.vm) (h : va_Nw w u) : va_Nw w U := by
  simp only [w_N, List.mem_cons, List.not_mem_nil, or_false] at hw
  rcases hw with rfl | rfl | rfl | rfl | rfl | rfl <;> exact va_Nw.warmM hW h
theorem w_nS {w : Cond} {u U : State} (hw : w ∈ w_N) (hW : u.vm = U.vm) (h : va_Nw w u) : va_Nw w U := by
  simp only [w_N, List.mem_cons, List.not_mem_nil, or_false] at hw
  rcases hw with rfl | rfl | rfl | rfl | rfl | rfl <;> exact va_Nw.same rfl hW h
/-- the world of a callee, at any state that is as warm -/
theorem w_Pw (C : w_C p R s m args meth c base dC dI dA aK aV b L xs n0 mi) (hw : w_S s base dC dI dA aK b n0 k0 h H locs cells slots) (hz : H.size ≤ s.heap.size + cells) (U : State) (hU : U.heap = H) (hW : s.WarmedH U.vm) : w_P base dC dI dA aK aV b L xs h U := by
  obtain ⟨hx, hb, hml, hown, hts, hr, hlk, hnm, hK, hN, hZ, hV, hX, hbb, hz0, hav, hz1, hz2, hRf, hRl⟩ := C
  obtain ⟨hP, hS, hc, hsl⟩ := hw
  have hlo := w_lo hP hS (by omega)
  refine ⟨by rw [hU]; omega, by rw [hU]; exact hP, va_K.moved hW.alike hK, fun w hw => w_nN hw hW (hN w hw), fun i hi => vk_R.warm hW (hZ i hi), ?_, ?_, hbb, hav, ?_, ?_⟩
  · rw [hU]
    exact (hV.moved hW.alike).kept hS.2.1
  · rw [hU]
    exact (hX.moved hW.alike).kept (hS.2.1 b (by omega) (Nat.not_le.mpr hbb))
  · rw [hU]
    exact (hz1.moved hW.alike).kept hS.2.1
  · rw [hU]
    exact (hz2.moved hW.alike).kept hS.2.1
theorem w_blind (as : List Value) : FrameBlind (w_Pc base dC dI dA aK aV b L xs as h) := by
  intro a U g mk q
  obtain ⟨q0, q1, q2, q3, q4, q5, q6, q7, q8, q9, q10, q11⟩ := q
  refine ⟨q0, q1, q2, va_K.moved (u := U) (U := U.calling g mk a) (Vm.Alike.refl U.vm) q3, fun w hw => w_nS (u := U) hw rfl (q4 w hw), fun i hi => vk_R.same (u := U) rfl (q5 i hi), vk_S.moved (u := U) (U := U.calling g mk a) (Vm.Alike.refl U.vm) q6, va_X.moved (u := U) (U := U.calling g mk a) (Vm.Alike.refl U.vm) q7, q8, q9, va_Z.moved (u := U) (U := U.calling g mk a) (Vm.Alike.refl U.vm) q10, va_Z.moved (u := U) (U := U.calling g mk a) (Vm.Alike.refl U.vm) q11⟩
/-- behind a call -/
theorem w_after {mj : Nat} {as rest : List Value} {r : Option Value} {h' : AH} (hw : w_S s base dC dI dA aK b n0 k0 h H locs cells slots) (hm : h.1 ≤ h'.1 ∧ h.2.1 ≤ h'.2.1)
    (hr : va_Run p l e R s m args below meth c H locs cells slots (h'.1 - h.1) (h'.2.1 - h.2.1) (F0 m pc ls (st.map (c_v base aK b))) (rest.map (c_v base aK b)) (w_Q base dC dI dA aK b r h' as.toArray) (fun q => base ≤ q))
    (kk : ∀ (H' : Heap) (locs' : List Loc) (cells' slots' : Nat), w_S s base dC dI dA aK b n0 k0 h' H' locs' cells' slots' → w_W p l e R s m args below meth c base aK b Q H' locs' cells' slots' (pc + 3) ls (r.toList ++ rest)) : w_W p l e R s m args below meth c base aK b Q H locs cells slots pc ls st := by
  obtain ⟨hP, hS, hc, hsl⟩ := hw
  intro T hT X
  obtain ⟨v, st₀, t, T', LL, h0, X', hL, e1, e2, ⟨hv, hP1, hz, hk⟩, stp⟩ := hr T hT X
  have hv : v = r.map (c_v base aK b) := by cases hv; rfl
  subst hv
  rw [h0] at hz hk
  have kk2 := kk T'.heap (locs ++ LL) (cells + (h'.1 - h.1)) (slots + (h'.2.1 - h.2.1)) ⟨by rw [e1]; exact hP1, ⟨Nat.le_trans hS.1 (by rw [e1]; exact hz), fun q h1 h2 => by rw [e1, hk q (Nat.lt_of_lt_of_le h1 hS.1) h2]; exact hS.2.1 q h1 h2, fun q hq => by
      rcases List.mem_append.mp hq with h | h
      · exact hS.2.2 q h
      · exact hL q h⟩, by omega, by omega⟩
  obtain ⟨t2, a1, b1⟩ := kk2 T' rfl X'
  refine ⟨t2, stp t2 ?_, b1⟩
  have he : (r.map (c_v base aK b)).toList ++ rest.map (c_v base aK b) = (r.toList ++ rest).map (c_v base aK b) := by
    cases r <;> simp
  rw [he]
  exact a1
theorem nx_ne {pc' : Nat} {q : Option Value ⊕ (Nat × List Value × List Value)} : ¬ a_nx pc' la st h = some (.inr q) := by
  intro z
  cases z
theorem go_ne {pc' : Nat} {off : Int} {q : Option Value ⊕ (Nat × List Value × List Value)} : ¬ a_go pc' off la st h = some (.inr q) := by
  intro z
  unfold a_go at z
  split at z <;> cases z
theorem br_ne {pc' : Nat} {off : Int} {q : Option Value ⊕ (Nat × List Value × List Value)} {c : Prop} [Decidable c] : ¬ a_br c pc' off la st h = some (.inr q) := by
  intro z
  unfold a_br at z
  split at z
  · split at z <;> cases z
  · cases z
theorem if_ne {pc' : Nat} {off : Int} {q : Option Value ⊕ (Nat × List Value × List Value)} {cd : ClassFile.Cond} {x : Int32} : ¬ a_if cd x pc' off la st h = some (.inr q) := by
  intro z
  unfold a_if at z
  split at z <;> exact br_ne z
theorem ic_ne {pc' : Nat} {off : Int} {q : Option Value ⊕ (Nat × List Value × List Value)} {cd : ClassFile.Cond} {x y : Int32} : ¬ a_ic cd x y pc' off la st h = some (.inr q) := by
  intro z
  unfold a_ic at z
  split at z <;> exact br_ne z
theorem nat_ne {pc' k : Nat} {q : Option Value ⊕ (Nat × List Value × List Value)} : ¬ a_nat mi pc' k la st h = some (.inr q) := by
  intro z
  unfold a_nat at z
  repeat' first | exact nx_ne z | cases z; done | split at z
set_option maxHeartbeats 4000000 in
theorem a_st_call {i : Instr} {r : AR} {q : Nat × List Value × List Value} (hs : a_st L xs mi pc la st h i r = some (.inr (.inr q))) : a_call mi r.1 r.2.1 r.2.2 st h = some (.inr (.inr q)) ∧ ((∃ x, i = .invokevirtual x ∧ r.1 = 0) ∨ (∃ x, i = .invokestatic x ∧ r.1 = 1) ∨ ∃ x, i = .invokespecial x ∧ (r.1 = 2 ∨ r.1 = 3)) := by
  unfold a_st at hs
  split at hs
  case h_62 =>
    split at hs
    · rename_i hk
      exact ⟨hs, Or.inl ⟨_, rfl, hk⟩⟩
    · cases hs
  case h_63 =>
    split at hs
    · rename_i hk
      exact ⟨hs, Or.inr (Or.inl ⟨_, rfl, hk⟩)⟩
    · split at hs
      · exact absurd hs nat_ne
      · cases hs
  case h_64 =>
    split at hs
    · rename_i hk
      exact ⟨hs, Or.inr (Or.inr ⟨_, rfl, hk⟩)⟩
    · split at hs
      · exact absurd hs nat_ne
      · cases hs
  all_goals (repeat' first | exact absurd hs nx_ne | exact absurd hs go_ne | exact absurd hs if_ne | exact absurd hs ic_ne | (cases hs; done) | split at hs)
theorem w_good (mj : Nat) (h0 : 0 < mj) (h1 : mj < 224) : GoodIn t_b (w_m mj) := by
  have hm := m_is h0 h1
  unfold m_ok at hm
  simp only [Bool.and_eq_true, decide_eq_true_eq] at hm
  intro w hw
  have hin : w ∈ t_b := by
    rcases List.mem_cons.mp hw with rfl | hw
    · exact at_p_in hm.1.1.1.1.1
    · exact hw
  exact ⟨hin, good_of_word (List.mem_filter.mp hin).2⟩
theorem w_B {R : Room} {mj n i : Nat} {own : String} {rm : Room} (hts : ∀ w ∈ t_b, w.before args s = true) (h0 : 0 < mj ∧ mj < 224) (hl : .methodLink own i (m_y mj) ∈ t_b) (hn : (parseMethodDescriptor (m_y mj).desc).map (fun d => d.parameters.length) = some n) (hR : rm.frames + 1 ≤ R.frames ∧ 8 + (m_l mj + 11) + rm.locals ≤ R.locals) : CallB R s args own i (m_y mj) (m_b mj) (m_l mj) (m_r mj) (w_m mj) rm rm.cells rm.slots n := by
  have hm := m_is h0.1 h0.2
  unfold m_ok at hm
  simp only [Bool.and_eq_true, decide_eq_true_eq] at hm
  exact callB_of n hts (w_good mj h0.1 h0.2) rfl rfl rfl (hts _ (at_p_in hm.1.1.1.1.2)) (hts _ hl) ⟨hm.1.2, hm.2, hn⟩ hR
set_option maxHeartbeats 4000000 in
/-- a call, out of the callee's contract -/
theorem sm_call (C : w_C p R s m args meth c base dC dI dA aK aV b L xs n0 mi) {i : Instr} {ri : AR} (hi : a_ins mi pc = some (i, ri)) {mj : Nat} {as rest : List Value} (hs : a_st L xs mi pc la st h i ri = some (.inr (.inr (mj, as, rest)))) (hl : lv_has ls (m_l mi) (c_l base aK b la)) (hw : w_S s base dC dI dA aK b n0 k0 h H locs cells slots) {r : Option Value} {h' : AH} (hM : w_Met l base dC dI dA aK aV b L xs mj as h r h') (hm : h.1 ≤ h'.1 ∧ h.2.1 ≤ h'.2.1) (hRc : h'.1 ≤ n0 + R.cells) (hRs : h'.2.1 ≤ k0 + R.slots)
    (kk : ∀ (H' : Heap) (locs' : List Loc) (cells' slots' : Nat), w_S s base dC dI dA aK b n0 k0 h' H' locs' cells' slots' → w_W p l e R s m args below meth c base aK b Q H' locs' cells' slots' (pc + 3) ls (r.toList ++ rest)) : w_W p l e R s m args below meth c base aK b Q H locs cells slots pc ls st := by
  have C0 := C
  obtain ⟨hx, hb, hml, hown, hts, hr, hlk, hnm, hK, hN, hZ, hV, hX, hbb, hz0, hav, hz1, hz2, hRf, hRl⟩ := C
  obtain ⟨nd, hd, hn, hres⟩ := a_ins_spec hi
  obtain ⟨hcall, hk⟩ := a_st_call hs
  obtain ⟨hP, hS, hc, hsl⟩ := id hw
  obtain ⟨k, mj', n⟩ := ri
  dsimp only at hcall hk
  refine w_sz (fun hz => ?_)
  have hPw := fun U hU hW => w_Pw (aV := aV) (L := L) (xs := xs) C0 hw hz U hU hW
  rcases hk with ⟨x, rfl, rfl⟩ | ⟨x, rfl, rfl⟩ | ⟨x, rfl, hk⟩
  · obtain rfl := w_len 2 hn rfl
    obtain ⟨⟨p1, p2, p3⟩, hq⟩ := sm_kl hres
    unfold k_ok at hq
    simp only [Bool.and_eq_true, decide_eq_true_eq] at hq
    obtain ⟨⟨⟨⟨hj, hq1⟩, hq2⟩, hq3⟩, hq4⟩ := hq
    unfold a_call at hcall
    rw [if_neg (by decide), if_pos rfl] at hcall
    split at hcall
    · rename_i a rest' hst
      split at hcall
      · rename_i ci fs ho
        split at hcall
        · rename_i hcn
          cases hcall
          obtain ⟨g1, g2, g3, g4, -⟩ := hcn
          unfold a_rm at g2
          simp only [Bool.and_eq_true, decide_eq_true_eq] at g2
          obtain ⟨hlt, hcell⟩ := h_ob_spec ho
          have hrec : ∃ cell : Cell, H[base + a]? = some cell ∧ cell.vm.isStatics = false ∧ s.vm.findClass (m_y mj).cls = some cell.cls := by
            unfold a_cn at g4
            cases hci : c_R[ci]? with
            | none =>
              exfalso
              have := (hP a _ (sm_c hlt hcell))
              obtain ⟨r', e1, -⟩ := this
              rw [a_cls_R, List.getElem?_map, hci] at e1
              cases e1
            | some r' =>
              obtain ⟨C', T', N', ty'⟩ := r'
              rw [hci] at g4
              have h2 := va_recv (D := (dC, dI)) hK hP (sm_cl hci).1 (sm_c hlt hcell)
              have g4 : C' = (m_y mj).cls := g4
              rw [← g4]
              exact h2
          have hsp : st = st.take n ++ (.ref a :: rest) := by rw [← hst]; exact (List.take_append_drop n st).symm
          refine w_after (mj := mj) (as := .ref a :: (st.take n).reverse) hw hm (va_runV (C := (m_y mj).cls) (b := base + a) (As := ((st.take n).reverse).map (c_v base aK b)) (rest := rest.map (c_v base aK b)) ⟨hx, hb, hml, hown, hts⟩ hM ⟨w_B hts hj (at_p_in hq1) hq4 ⟨by show m_f mj + 1 ≤ R.frames; exact Nat.le_trans g2.1 hRf, by show 8 + (m_l mj + 11) + m_w mj ≤ R.locals; exact Nat.le_trans g2.2 hRl⟩, hts _ (at_p_in hq2), hts _ (at_p_in hq3)⟩ ⟨w_blind _, hrec, fun U hU hW => ⟨rfl, hPw U hU hW⟩⟩ rfl (by rw [List.length_map, List.length_reverse, List.length_take]; omega) hl.1 ?_ (lv_room (by rw [c_sum]; exact g3)) hd ⟨by show cells + (h'.1 - h.1) ≤ R.cells; omega, by show slots + (h'.2.1 - h.2.1) ≤ R.slots; omega⟩) kk
          show st.map (c_v base aK b) = _
          rw [← List.map_reverse, List.reverse_reverse]
          conv => lhs; rw [hsp]
          rw [List.map_append, List.map_cons]
          rfl
        · cases hcall
      · cases hcall
    · rename_i q rest' hst
      split at hcall
      · rename_i hcn
        cases hcall
        obtain ⟨g1, g2, g3, g4, -⟩ := hcn
        unfold a_rm at g2
        simp only [Bool.and_eq_true, decide_eq_true_eq] at g2
        have hcq := c_fk (base := base) (aK := aK) (b := b) (s_k1 g4.1).1 (s_k1 g4.1).2
        have hrec : ∃ cell : Cell, H[aK q.toNat]? = some cell ∧ cell.vm.isStatics = false ∧ s.vm.findClass (m_y mj).cls = some cell.cls := by
          rw [← g4.2]
          exact vk_recv hV g4.1 hS
        have hsp : st = st.take n ++ (.float q :: rest) := by rw [← hst]; exact (List.take_append_drop n st).symm
        refine w_after (mj := mj) (as := .float q :: (st.take n).reverse) hw hm (va_runV (C := (m_y mj).cls) (b := aK q.toNat) (As := ((st.take n).reverse).map (c_v base aK b)) (rest := rest.map (c_v base aK b)) ⟨hx, hb, hml, hown, hts⟩ hM ⟨w_B hts hj (at_p_in hq1) hq4 ⟨by show m_f mj + 1 ≤ R.frames; exact Nat.le_trans g2.1 hRf, by show 8 + (m_l mj + 11) + m_w mj ≤ R.locals; exact Nat.le_trans g2.2 hRl⟩, hts _ (at_p_in hq2), hts _ (at_p_in hq3)⟩ ⟨w_blind _, hrec, fun U hU hW => ⟨by rw [List.map_cons, hcq], hPw U hU hW⟩⟩ rfl (by rw [List.length_map, List.length_reverse, List.length_take]; omega) hl.1 ?_ (lv_room (by rw [c_sum]; exact g3)) hd ⟨by show cells + (h'.1 - h.1) ≤ R.cells; omega, by show slots + (h'.2.1 - h.2.1) ≤ R.slots; omega⟩) kk
        show st.map (c_v base aK b) = _
        rw [← List.map_reverse, List.reverse_reverse]
        conv => lhs; rw [hsp]
        rw [List.map_append, List.map_cons, hcq]
      · cases hcall
    · cases hcall
  · obtain rfl := w_len 2 hn rfl
    obtain ⟨⟨p1, p2, p3⟩, hq⟩ := sm_kl hres
    unfold k_ok at hq
    simp only [Bool.and_eq_true, decide_eq_true_eq] at hq
    obtain ⟨⟨⟨hj, hq1⟩, hq2⟩, hq4⟩ := hq
    unfold a_call at hcall
    rw [if_pos rfl] at hcall
    split at hcall
    · rename_i hcn
      cases hcall
      obtain ⟨g1, g2, g3, -⟩ := hcn
      unfold a_rm at g2
      simp only [Bool.and_eq_true, decide_eq_true_eq] at g2
      refine w_after (mj := mj) (as := (st.take n).reverse) hw hm (va_runS (As := ((st.take n).reverse).map (c_v base aK b)) (rest := (st.drop n).map (c_v base aK b)) ⟨hx, hb, hml, hown, hts⟩ hM ⟨w_B hts hj (at_p_in hq1) hq4 ⟨by show m_f mj + 1 ≤ R.frames; exact Nat.le_trans g2.1 hRf, by show 8 + (m_l mj + 11) + m_w mj ≤ R.locals; exact Nat.le_trans g2.2 hRl⟩, hts _ (at_p_in hq2)⟩ ⟨w_blind _, fun U hU hW => ⟨rfl, hPw U hU hW⟩⟩ rfl (by rw [List.length_map, List.length_reverse, List.length_take]; omega) hl.1 ?_ (lv_room (by rw [c_sum]; exact g3)) hd ⟨by show cells + (h'.1 - h.1) ≤ R.cells; omega, by show slots + (h'.2.1 - h.2.1) ≤ R.slots; omega⟩) kk
      show st.map (c_v base aK b) = _
      rw [← List.map_reverse, List.reverse_reverse, ← List.map_append, List.take_append_drop]
    · cases hcall
  · obtain rfl := w_len 2 hn rfl
    obtain ⟨⟨p1, p2, p3⟩, hq⟩ := sm_kl hres
    unfold a_call at hcall
    rw [if_neg (by omega), if_neg (by omega)] at hcall
    split at hcall
    · rename_i a rest' hst
      split at hcall
      · rename_i hcn
        cases hcall
        obtain ⟨g1, g2, g3, -⟩ := hcn
        unfold a_rm at g2
        simp only [Bool.and_eq_true, decide_eq_true_eq] at g2
        have hsp : st = st.take n ++ (.ref a :: rest) := by rw [← hst]; exact (List.take_append_drop n st).symm
        have hstk : st.map (c_v base aK b) = (((st.take n).reverse).map (c_v base aK b)).reverse ++ .ref (base + a) :: rest.map (c_v base aK b) := by
          rw [← List.map_reverse, List.reverse_reverse]
          conv => lhs; rw [hsp]
          rw [List.map_append, List.map_cons]
          rfl
        rcases hk with rfl | rfl
        · unfold k_ok at hq
          simp only [Bool.and_eq_true, decide_eq_true_eq] at hq
          obtain ⟨⟨⟨⟨⟨hj, hq1⟩, hq2⟩, hq3⟩, hq5⟩, hq4⟩ := hq
          have hB := w_B (rm := { frames := m_f mj, cells := h'.1 - h.1, slots := h'.2.1 - h.2.1, locals := m_w mj }) (R := R) hts hj (at_p_in hq1) hq4 ⟨by show m_f mj + 1 ≤ R.frames; exact Nat.le_trans g2.1 hRf, by show 8 + (m_l mj + 11) + m_w mj ≤ R.locals; exact Nat.le_trans g2.2 hRl⟩
          rw [hq5] at hB
          exact w_after (mj := mj) (as := .ref a :: (st.take n).reverse) hw hm (va_runI (b := base + a) (As := ((st.take n).reverse).map (c_v base aK b)) (rest := rest.map (c_v base aK b)) ⟨hx, hb, hml, hown, hts⟩ hM ⟨hB, hq3, hts _ (at_p_in hq2)⟩ ⟨w_blind _, fun U hU hW => ⟨rfl, hPw U hU hW⟩⟩ rfl (by rw [List.length_map, List.length_reverse, List.length_take]; omega) hl.1 hstk (lv_room (by rw [c_sum]; exact g3)) hd ⟨by show cells + (h'.1 - h.1) ≤ R.cells; omega, by show slots + (h'.2.1 - h.2.1) ≤ R.slots; omega⟩) kk
        · unfold k_ok at hq
          simp only [Bool.and_eq_true, decide_eq_true_eq] at hq
          obtain ⟨⟨⟨⟨⟨hj, hq1⟩, hq2⟩, hq3⟩, hq5⟩, hq4⟩ := hq
          have hmo := m_is hj.1 hj.2
          unfold m_ok at hmo
          simp only [Bool.and_eq_true, decide_eq_true_eq] at hmo
          have hB := va_cnB (R := R) (rm := { frames := m_f mj, cells := h'.1 - h.1, slots := h'.2.1 - h.2.1, locals := m_w mj }) (bytes := m_b mj) (maxL := m_l mj) (ret := m_r mj) n hts (w_good mj hj.1 hj.2) rfl rfl rfl (hN _ hq1) (hts _ (at_p_in hmo.1.1.1.1.2)) ⟨hmo.1.2, hmo.2, hq4⟩ ⟨by show m_f mj + 1 ≤ R.frames; exact Nat.le_trans g2.1 hRf, by show 8 + (m_l mj + 11) + m_w mj ≤ R.locals; exact Nat.le_trans g2.2 hRl⟩
          rw [hq5] at hB
          exact w_after (mj := mj) (as := .ref a :: (st.take n).reverse) hw hm (va_runIN (b := base + a) (As := ((st.take n).reverse).map (c_v base aK b)) (rest := rest.map (c_v base aK b)) ⟨hx, hb, hml, hown, hts⟩ hM ⟨hB, hq3, hts _ (at_p_in hq2)⟩ ⟨w_blind _, fun U hU hW => ⟨rfl, hPw U hU hW⟩⟩ rfl (by rw [List.length_map, List.length_reverse, List.length_take]; omega) hl.1 hstk (lv_room (by rw [c_sum]; exact g3)) hd ⟨by show cells + (h'.1 - h.1) ≤ R.cells; omega, by show slots + (h'.2.1 - h.2.1) ≤ R.slots; omega⟩) kk
      · cases hcall
    · cases hcall
end SIM5
end
section
section SIM6
variable {p : Program} {l : Launch} {e : Env} {R : Room} {s : State} {m : MethodId} {args : Array Value} {below : List Frame} {meth : Method} {c : Code} {H : Heap} {locs : List Loc} {cells slots : Nat} {Q : State → Prop}
variable {base : Nat} {dC : Nat → ClassId} {dI : Nat → Nat → Nat} {dA : FieldType → ClassId} {aK aV : Nat → Nat} {b L : Nat} {xs : Nat → Int32} {n0 k0 mi : Nat}
variable {pc : Nat} {ls : Array Slot} {la : AL} {st : List Value} {h : AH}
theorem call_ne {k mj n : Nat} {v : Option Value} : ¬ a_call mi k mj n st h = some (.inr (.inl v)) := by
  intro hs
  unfold a_call at hs
  repeat' first | (cases hs; done) | split at hs
set_option maxHeartbeats 4000000 in
theorem a_st_ret {i : Instr} {r : AR} {v : Option Value} (hs : a_st L xs mi pc la st h i r = some (.inr (.inl v))) : (i = .ireturn ∧ ∃ x t, st = [.int x] ∧ m_r mi = some t ∧ narrow t (.int x) = .int x ∧ v = some (.int x)) ∨ (i = .lreturn ∧ ∃ x, st = [.long x] ∧ m_r mi = some .long ∧ v = some (.long x)) ∨ (i = .return_ ∧ st = [] ∧ m_r mi = none ∧ v = none) := by
  unfold a_st at hs
  split at hs
  case h_65 =>
    split at hs
    · rename_i x t ht
      split at hs
      · rename_i hn
        cases hs
        exact Or.inl ⟨rfl, _, _, rfl, ht, hn, rfl⟩
      · cases hs
    · cases hs
  case h_66 =>
    split at hs
    · rename_i hn
      cases hs
      exact Or.inr (Or.inl ⟨rfl, _, rfl, hn, rfl⟩)
    · cases hs
  case h_67 =>
    split at hs
    · rename_i hn
      cases hs
      exact Or.inr (Or.inr ⟨rfl, rfl, hn, rfl⟩)
    · cases hs
  all_goals (repeat' first | exact absurd hs nx_ne | exact absurd hs go_ne | exact absurd hs if_ne | exact absurd hs ic_ne | exact absurd hs nat_ne | exact absurd hs call_ne | (cases hs; done) | split at hs)
set_option maxHeartbeats 4000000 in
theorem a_st_mono {i : Instr} {r : AR} {pc' : Nat} {la' : AL} {st' : List Value} {h' : AH} (hs : a_st L xs mi pc la st h i r = some (.inl (pc', la', st', h'))) : h.1 ≤ h'.1 ∧ h.2.1 ≤ h'.2.1 := by
  have nx1 : ∀ {a b : Nat} {la1 la2 : AL} {st1 st2 : List Value} {h1 h2 : AH}, a_nx a la1 st1 h1 = some (.inl (b, la2, st2, h2)) → h2 = h1 := fun z => (w_nx z).2.2.2
  have br1 : ∀ {q : Prop} [Decidable q] {a b : Nat} {o : Int} {la1 la2 : AL} {st1 st2 : List Value} {h1 h2 : AH}, a_br q a o la1 st1 h1 = some (.inl (b, la2, st2, h2)) → h2 = h1 := fun z => (w_br z).1.2.2
  have same : ∀ {h1 : AH}, h1 = h → h.1 ≤ h1.1 ∧ h.2.1 ≤ h1.2.1 := fun z => by rw [z]; exact ⟨Nat.le_refl _, Nat.le_refl _⟩
  have sv1 : ∀ {a : Nat} {t : FieldType} {j x : Int32} {h1 h2 : AH}, a_sv h a t j x = some h1 → h2 = h1 → h.1 ≤ h2.1 ∧ h.2.1 ≤ h2.2.1 := fun z y => by
    obtain ⟨_, _, _, _, _, rfl⟩ := a_sv_spec z
    rw [y]
    exact ⟨Nat.le_refl _, Nat.le_refl _⟩
  unfold a_st a_if a_ic a_nat at hs
  split at hs
  all_goals (repeat' first | exact same (nx1 hs) | exact same (w_go hs).2.2.2 | exact same (br1 hs) | exact sv1 (by assumption) (nx1 hs) | (rw [nx1 hs]; exact ⟨Nat.le_refl _, Nat.le_refl _⟩) | (rw [nx1 hs]; exact ⟨Nat.le_succ _, Nat.le_add_right _ _⟩) | exact absurd hs sm_nc | (cases hs; done) | split at hs)
theorem a_run_mono : ∀ (f : Nat) {mi pc : Nat} {la : AL} {st : List Value} {h : AH} {r : Option Value} {h' : AH}, a_run L xs f mi pc la st h = some (r, h') → h.1 ≤ h'.1 ∧ h.2.1 ≤ h'.2.1
  | 0, _, _, _, _, _, _, _, z => by cases z
  | f + 1, mi, pc, la, st, h, r, h', z => by
    unfold a_run at z
    split at z
    · cases z
    · split at z
      · cases z
      · rename_i hs
        have h1 := a_st_mono hs
        have h2 := a_run_mono f z
        exact ⟨Nat.le_trans h1.1 h2.1, Nat.le_trans h1.2 h2.2⟩
      · cases z
        exact ⟨Nat.le_refl _, Nat.le_refl _⟩
      · split at z
        · cases z
        · rename_i hc
          have h1 := a_run_mono f hc
          have h2 := a_run_mono f z
          exact ⟨Nat.le_trans h1.1 h2.1, Nat.le_trans h1.2 h2.2⟩
theorem call_ok {i : Instr} {r : AR} (hi : a_ins mi pc = some (i, r)) {mj : Nat} {as rest : List Value} (hs : a_st L xs mi pc la st h i r = some (.inr (.inr (mj, as, rest)))) : (0 < mj ∧ mj < 224) ∧ a_sum as ≤ m_l mj := by
  obtain ⟨nd, hd, hn, hres⟩ := a_ins_spec hi
  obtain ⟨hcall, hk⟩ := a_st_call hs
  obtain ⟨k, mj', n⟩ := r
  dsimp only at hcall hk
  have h1 : mj' = mj ∧ a_sum as ≤ m_l mj := by
    unfold a_call at hcall
    split at hcall
    · split at hcall
      · rename_i hc
        cases hcall
        exact ⟨rfl, hc.2.2.2⟩
      · cases hcall
    · split at hcall
      · split at hcall
        · split at hcall
          · split at hcall
            · rename_i hc
              cases hcall
              exact ⟨rfl, hc.2.2.2.2⟩
            · cases hcall
          · cases hcall
        · split at hcall
          · rename_i hc
            cases hcall
            exact ⟨rfl, hc.2.2.2.2⟩
          · cases hcall
        · cases hcall
      · split at hcall
        · split at hcall
          · rename_i hc
            cases hcall
            exact ⟨rfl, hc.2.2.2⟩
          · cases hcall
        · cases hcall
  obtain ⟨rfl, h2⟩ := h1
  refine ⟨?_, h2⟩
  rcases hk with ⟨x, rfl, rfl⟩ | ⟨x, rfl, rfl⟩ | ⟨x, rfl, rfl | rfl⟩ <;>
  · obtain ⟨⟨p1, p2, p3⟩, hq⟩ := sm_kl hres
    unfold k_ok at hq
    simp only [Bool.and_eq_true, decide_eq_true_eq] at hq
    first | exact hq.1.1.1.1 | exact hq.1.1.1 | exact hq.1.1.1.1.1
theorem sm_ret (C : w_C p R s m args meth c base dC dI dA aK aV b L xs n0 mi) {i : Instr} {r : AR} (hi : a_ins mi pc = some (i, r)) {v : Option Value} (hs : a_st L xs mi pc la st h i r = some (.inr (.inl v))) (hw : w_S s base dC dI dA aK b n0 k0 h H locs cells slots) : w_W p l e R s m args below meth c base aK b (MQ below (w_Q base dC dI dA aK b v h) args s cells slots (fun q => base ≤ q)) H locs cells slots pc ls st := by
  obtain ⟨hx, hb, hml, hown, hts, hr, hlk, hnm, hK, hN, hZ, hV, hX, hbb, hz0, hav, hz1, hz2, hRf, hRl⟩ := C
  obtain ⟨nd, hd, hn, hres⟩ := a_ins_spec hi
  obtain ⟨hP, hS, hc, hsl⟩ := hw
  rcases a_st_ret hs with ⟨rfl, x, t, rfl, ht, hnar, rfl⟩ | ⟨rfl, x, rfl, ht, rfl⟩ | ⟨rfl, rfl, ht, rfl⟩
  · obtain rfl := w_len 0 hn rfl
    exact W.zret hx hb (hr.trans ht) hnar (fun t0 ht0 _ => ⟨rfl, by rw [ht0]; exact hP, hS.F ht0⟩) hS.2.2 hd hlk
  · obtain rfl := w_len 0 hn rfl
    exact W.lret hx hb (hr.trans ht) (fun t0 ht0 _ => ⟨rfl, by rw [ht0]; exact hP, hS.F ht0⟩) hS.2.2 hd hlk
  · obtain rfl := w_len 0 hn rfl
    exact W.vret hx hb (hr.trans ht) (fun t0 ht0 _ => ⟨rfl, by rw [ht0]; exact hP, hS.F ht0⟩) hS.2.2 hd hlk
theorem sl_len (as : List Value) : (lg_sl as).length = a_sum as := by
  induction as with
  | nil => rfl
  | cons v as ih =>
    unfold lg_sl a_sum at ih ⊢
    rw [List.flatMap_cons, List.length_append, ih, List.map_cons, List.sum_cons]
    congr 1
    cases v <;> rfl
end SIM6
/-- what the simulation says of fuel f -/
def w_Sim (L : Nat) (xs : Nat → Int32) (f : Nat) : Prop := ∀ ⦃p : Program⦄ ⦃l : Launch⦄ ⦃e : Env⦄ ⦃R : Room⦄ ⦃s : State⦄ ⦃m : MethodId⦄ ⦃args : Array Value⦄ ⦃below : List Frame⦄ ⦃meth : Method⦄ ⦃c : Code⦄ ⦃H : Heap⦄ ⦃locs : List Loc⦄ ⦃cells slots : Nat⦄ ⦃Q : State → Prop⦄ ⦃base : Nat⦄ ⦃dC : Nat → ClassId⦄ ⦃dI : Nat → Nat → Nat⦄ ⦃dA : FieldType → ClassId⦄ ⦃aK aV : Nat → Nat⦄ ⦃b n0 k0 mi pc : Nat⦄ ⦃ls : Array Slot⦄ ⦃la : AL⦄ ⦃st : List Value⦄ ⦃h h' : AH⦄ ⦃r : Option Value⦄,
  a_run L xs f mi pc la st h = some (r, h') → w_C p R s m args meth c base dC dI dA aK aV b L xs n0 mi → lv_has ls (m_l mi) (c_l base aK b la) → w_S s base dC dI dA aK b n0 k0 h H locs cells slots → h'.1 ≤ n0 + R.cells → h'.2.1 ≤ k0 + R.slots →
  (∀ (H' : Heap) (locs' : List Loc) (cells' slots' : Nat) (pc' : Nat) (ls' : Array Slot) (la' : AL) (st' : List Value) (i : Instr) (ri : AR), a_ins mi pc' = some (i, ri) → a_st L xs mi pc' la' st' h' i ri = some (.inr (.inl r)) → w_S s base dC dI dA aK b n0 k0 h' H' locs' cells' slots' → w_W p l e R s m args below meth c base aK b Q H' locs' cells' slots' pc' ls' st') →
  w_W p l e R s m args below meth c base aK b Q H locs cells slots pc ls st
theorem sim_met {L : Nat} {xs : Nat → Int32} {f : Nat} (ih : w_Sim L xs f) {l : Launch} {base : Nat} {dC : Nat → ClassId} {dI : Nat → Nat → Nat} {dA : FieldType → ClassId} {aK aV : Nat → Nat} {b mj : Nat} {as : List Value} {h h' : AH} {r : Option Value} (h0 : 0 < mj ∧ mj < 224) (hsum : a_sum as ≤ m_l mj) (hrun : a_run L xs f mj 0 (lv_args 0 as) [] h = some (r, h')) : w_Met l base dC dI dA aK aV b L xs mj as h r h' := by
  have hm := m_is h0.1 h0.2
  unfold m_ok at hm
  simp only [Bool.and_eq_true, decide_eq_true_eq] at hm
  have hmo := a_run_mono f hrun
  refine Met.ofW (cc := m_b mj) (maxL := m_l mj) (ret := m_r mj) hm.1.1.2 rfl ?_
  intro p e s m args below meth c s₁ B hml hv
  obtain ⟨rfl, q1, q2, q3, q4, q5, q6, q7, q8, q9, q10, q11⟩ := hv
  have hown : s.vm.findClass (o_N.getD (m_o mj) "") = some m.cls := by rw [hm.1.1.1.2]; exact findClass_of_methodNamed B.named
  have hl := lv_entry (as.map (c_v base aK b)) (n := m_l mj) (by rw [sl_len]; unfold a_sum; rw [c_sum]; exact hsum)
  rw [lg_entry_eq]
  generalize (lg_sl (as.map (c_v base aK b)) ++ List.replicate (m_l mj - (lg_sl (as.map (c_v base aK b))).length) Slot.unset).toArray = ls at hl ⊢
  rw [c_args] at hl
  have C0 : w_C p (headSpec (w_m mj) { frames := m_f mj, cells := h'.1 - h.1, slots := h'.2.1 - h.2.1, locals := m_w mj }).room s m (as.map (c_v base aK b)).toArray meth c base dC dI dA aK aV b L xs h.1 mj :=
    ⟨B.exec, B.bytes, hml, hown, fun w hw => atoms_spec (ws := w_m mj) B.pre w (List.mem_cons_of_mem _ hw), B.returns, B.notSynchronized, fun z => (name_of_methodNamed B.named B.method).1.trans z, q3, q4, q5, q6, q7, q8, q1, q9, q10, q11, Nat.le_refl _, Nat.le_refl _⟩
  refine ih (st := []) (n0 := h.1) (k0 := h.2.1) hrun C0 hl ⟨q2, va_S.rf, Nat.add_zero _, Nat.add_zero _⟩ ?_ ?_ ?_
  · show h'.1 ≤ h.1 + (h'.1 - h.1)
    omega
  · show h'.2.1 ≤ h.2.1 + (h'.2.1 - h.2.1)
    omega
  · intro H' locs' cells' slots' pc' ls' la' st' i ri hi hs hw
    have e1 : h'.1 - h.1 = cells' := by have := hw.2.2.1; omega
    have e2 : h'.2.1 - h.2.1 = slots' := by have := hw.2.2.2; omega
    have h9 := sm_ret (below := below) (l := l) (e := e) (ls := ls') C0 hi hs hw
    rw [← e1, ← e2] at h9 ⊢
    exact h9
theorem sim (L : Nat) (xs : Nat → Int32) : ∀ f : Nat, w_Sim L xs f
  | 0 => by
    intro p l e R s m args below meth c H locs cells slots Q base dC dI dA aK aV b n0 k0 mi pc ls la st h h' r hrun
    cases hrun
  | f + 1 => by
    have ih := sim L xs f
    intro p l e R s m args below meth c H locs cells slots Q base dC dI dA aK aV b n0 k0 mi pc ls la st h h' r hrun C hl hw hRc hRs hret
    unfold a_run at hrun
    split at hrun
    · cases hrun
    · rename_i i ri hi
      split at hrun
      · cases hrun
      · rename_i pc1 la1 st1 h1 hs
        have hmo := a_run_mono f hrun
        exact sm_nx C hi hs hl hw (Nat.le_trans hmo.1 hRc) (Nat.le_trans hmo.2 hRs) (fun H1 locs1 cells1 slots1 ls1 hl1 hw1 => ih hrun C hl1 hw1 hRc hRs hret)
      · rename_i v hs
        cases hrun
        exact hret H locs cells slots pc ls la st i ri hi hs hw
      · rename_i mj as rest hs
        split at hrun
        · cases hrun
        · rename_i v h1 hc
          have hok := call_ok hi hs
          have hm1 := a_run_mono f hc
          have hm2 := a_run_mono f hrun
          exact sm_call C hi hs hl hw (sim_met ih hok.1 hok.2 hc) hm1 (Nat.le_trans hm2.1 hRc) (Nat.le_trans hm2.2 hRs) (fun H1 locs1 cells1 slots1 hw1 => ih hrun C hl hw1 hRc hRs hret)
end
section
/-! THE CLAIM OUT OF ONE WALK OF THE LAW'S BODY. Your part is whole_start (and what it stands on); all else here is the same for every law, but numbers. -/
def R_law : String := "MarkBenchLaw"
def lw_P (b : Addr) (xs : List Int32) (args : Array Value) (s : State) : Prop := args = #[.ref b] ∧ s.IntsAt b xs ∧ xs.length ≤ 3072 ∧ (Jvm.Cond.and given_1 narrow_1).before args s = true
def lw_Q (_ : Array Value) (s : State) (o : Outcome) (t : State) : Prop := o = .returned (some (.int 1)) ∧ Framed s o t [] 600000 7302250
def lw_Z (below : List Frame) (a : Array Value) (s : State) : State → Prop := fun t => ∃ o, t.status = .running ∧ Ended t below o ∧ lw_Q a s o t
/-- the law's own end, with 1 on the stack, nothing written that was there before, its room as the claim has it -/
theorem lw_ret {p : Program} {l : Launch} {e : Env} {s : State} {m : MethodId} {below : List Frame} {meth : Method} {c : Code} {b : Nat} (hx : p.tables.exec = Jvm.exec) (hb : c.code = code) (hr : meth.sig.returnType = ret) (hlocks : meth.locks = false) {pc : Nat} {H : Heap} {ls : Array Slot} (hdg : decode code pc = .ok (.ireturn, 1)) : W p l e room_1 s m #[Value.ref b] below meth c H [] 600000 7302250 (lw_Z below #[Value.ref b] s) (F0 m pc ls [.int 1]) := by
  intro T hT X
  obtain ⟨fs, hret, hrun, hended, hW, hframe⟩ := X.leave (v := some (.int 1)) (hlocks := hlocks) (fun h => by rw [hr] at h; cases h)
  have hmeth' : T.vm.method? m = some meth := X.method'
  refine ⟨T.setFrames fs, ?_, .returned (some (.int 1)), hrun, hended, rfl, ⟨_, rfl⟩, hW, hframe⟩
  jvm_step X.here [X.here.top, hx, hb, hdg, hmeth', hr, ret, narrow_b1]
  (try refine ⟨rfl, ?_⟩); (try refine ⟨rfl, ?_⟩)
  first | (intro acts; rw [hret _ acts rfl rfl rfl]) | rw [hret _ _ rfl rfl rfl]
  exact Steps.refl _
/-- what holds at the law's entry: the machine, the code, the tables' words (any of lw_tbl by 'hts w (by decide +kernel)'), the script of L ints xs at the cell b, what the Statement gives of the start (any of its parts by flat_of_before) -/
def lw_At (p : Program) (s : State) (m : MethodId) (meth : Method) (c : Code) (b L : Nat) (xs : Nat → Int32) : Prop :=
  p.tables.exec = Jvm.exec ∧ c.code = code ∧ meth.sig.returnType = ret ∧ c.maxLocals = 4 ∧ s.vm.findClass R_law = some m.cls ∧ (∀ w ∈ lw_tbl, w.before #[Value.ref b] s = true) ∧ va_X b L xs s s.heap ∧ b < s.heap.size ∧ meth.locks = false ∧ (Jvm.Cond.and given_1 narrow_1).before #[Value.ref b] s = true
/-! THE LAW'S START, out of a run of the abstract machine -/
def s_T (i : Nat) : Term := .string (s_O i).1 (s_O i).2.1
def n_F : List Cond := flatC (Jvm.Cond.and given_1 narrow_1)
theorem n_1 : (List.range 9).all (fun i => decide (Cond.exactly (s_T i) "java/lang/String" ∈ n_F) && decide (Cond.eq (.field (s_T i) "java/lang/String" "coder" "B") (.int 0) ∈ n_F) && decide (Cond.arrayOf (.field (s_T i) "java/lang/String" "value" "[B") .byte ∈ n_F) && decide (Cond.eq (.length (.field (s_T i) "java/lang/String" "value" "[B")) (.int (Int32.ofNat (s_L.getD i 0))) ∈ n_F) && decide (s_L.getD i 0 < 2 ^ 31)) = true := by decide +kernel
theorem n_2 : (List.range 9).all (fun i => (List.range (s_L.getD i 0)).all (fun j => decide (Cond.eq (.elem (.field (s_T i) "java/lang/String" "value" "[B") (.int (Int32.ofNat j))) (.int ((s_B.getD i []).getD j 0)) ∈ n_F))) = true := by decide +kernel
theorem n_3 : (List.range 9).all (fun i => (List.range 9).all (fun j => decide (i = j) || decide (Cond.not (Cond.eq (s_T i) (s_T j)) ∈ n_F) || decide (Cond.not (Cond.eq (s_T j) (s_T i)) ∈ n_F))) = true := by decide +kernel
theorem n_4 : Cond.eq (.static "java/lang/String" "COMPACT_STRINGS" "Z") (.int 1) ∈ n_F := by decide +kernel
theorem n_5 : Cond.isRef (.static "jdk/internal/util/Preconditions" "SIOOBE_FORMATTER" "Ljava/util/function/BiFunction;") ∈ n_F := by decide +kernel
theorem n_6 : (List.range 9).all (fun i => decide (Cond.stringRef (s_O i).1 (s_O i).2.1 (s_O i).2.2 ∈ lw_tbl)) = true := by decide +kernel
theorem n_7 : w_N.all (fun w => decide (w ∈ lw_tbl)) = true := by decide +kernel
theorem n_8 : Cond.initialized "java/lang/String" ∈ lw_tbl := by decide +kernel
theorem n_9 : Cond.initialized "jdk/internal/util/Preconditions" ∈ lw_tbl := by decide +kernel
theorem w_nO {w : Cond} {A : Array Value} {U : State} (hw : w ∈ w_N) (h : w.before A U = true) : va_Nw w U := by
  simp only [w_N, List.mem_cons, List.not_mem_nil, or_false] at hw
  rcases hw with rfl | rfl | rfl | rfl | rfl | rfl <;> exact va_Nw.of rfl h
def e_H : AH := (0, 0, fun _ => .inr (0, []))
def e_L : AL := [(0, .float 1000)]
set_option maxHeartbeats 4000000 in
theorem law_of {p : Program} {e : Env} {s : State} {m : MethodId} {below : List Frame} {meth : Method} {c : Code} (l : Launch) {b L : Nat} {xs : Nat → Int32} (C0 : lw_At p s m meth c b L xs) {f : Nat} {h' : AH} (hrun : a_run L xs f 0 0 e_L [] e_H = some (some (.int 1), h')) (hc : h'.1 ≤ 600000) (hs : h'.2.1 ≤ 7302250) : W p l e room_1 s m #[Value.ref b] below meth c s.heap [] 0 0 (lw_Z below #[Value.ref b] s) (entryFrame m ([Value.ref b] : List Value).toArray 4) := by
  obtain ⟨hx, hb, hr, hml, hown, hts, hX, hbl, hlocks, hgv⟩ := id C0
  have hfl := flat_of_before _ hgv
  have htb : ∀ w ∈ t_b, w.before #[Value.ref b] s = true := fun w hw => hts w (List.mem_filter.mp hw).1
  have hlow : ∀ a : Nat, a < s.heap.size → ¬ (fun q => s.heap.size ≤ q) a := fun a ha => Nat.not_le.mpr ha
  have h1 := fun i hi => List.all_eq_true.mp n_1 i (List.mem_range.mpr hi)
  simp only [Bool.and_eq_true, decide_eq_true_eq] at h1
  obtain ⟨kK, kV, hV, hev⟩ := vk_Sof (args := #[Value.ref b]) (s := s) (N := 9) (tm := s_T) (len := s_L) (byt := s_B) (A := fun q => s.heap.size ≤ q) (fun i hi => (h1 i hi).2) (fun i hi => hfl _ (h1 i hi).1.1.1.1) (fun i hi => hfl _ (h1 i hi).1.1.1.2) (fun i hi => hfl _ (h1 i hi).1.1.2) (fun i hi => hfl _ (h1 i hi).1.2)
    (fun i hi j hj => hfl _ (of_decide_eq_true (List.all_eq_true.mp (List.all_eq_true.mp n_2 i (List.mem_range.mpr hi)) j (List.mem_range.mpr hj))))
    (fun i j hi hj hij => by
      have h3 := List.all_eq_true.mp (List.all_eq_true.mp n_3 i (List.mem_range.mpr hi)) j (List.mem_range.mpr hj)
      simp only [Bool.or_eq_true, decide_eq_true_eq] at h3
      rcases h3 with (h3 | h3) | h3
      · exact absurd h3 hij
      · exact Or.inl (hfl _ h3)
      · exact Or.inr (hfl _ h3)) hlow
  have hz1 := va_Zof (A := fun q => s.heap.size ≤ q) (hts _ o_z1) (hts _ n_8) (va_eqi (hfl _ n_4)) hlow
  have hz2 := va_Zqof (A := fun q => s.heap.size ≤ q) (hts _ o_z2) (hts _ n_9) (hfl _ n_5) hlow
  obtain ⟨z, hz⟩ : ∃ z : Nat, va_Z "jdk/internal/util/Preconditions" "SIOOBE_FORMATTER" "Ljava/util/function/BiFunction;" (c_z z) (fun q => s.heap.size ≤ q) s s.heap := by
    rcases hz2 with q | ⟨t, q⟩
    · exact ⟨0, q⟩
    · exact ⟨t + 1, q⟩
  obtain ⟨aK, haK⟩ : ∃ aK : Nat → Nat, aK = fun k => if k = 3000 then z else if k < 1000 then kK k else kV (k - 2000) := ⟨_, rfl⟩
  have hk1 : ∀ i, i < 9 → aK i = kK i := fun i hi => by
    rw [haK]
    show (if i = 3000 then z else if i < 1000 then kK i else kV (i - 2000)) = kK i
    rw [if_neg (by omega), if_pos (by omega)]
  have hk2 : ∀ i, i < 9 → kV i = aK (2000 + i) := fun i hi => by
    rw [haK]
    show kV i = (if 2000 + i = 3000 then z else if 2000 + i < 1000 then kK (2000 + i) else kV (2000 + i - 2000))
    rw [if_neg (by omega), if_neg (by omega), Nat.add_sub_cancel_left]
  have hV2 : vk_S 9 s_L s_B aK kV (fun q => s.heap.size ≤ q) s s.heap := ⟨fun i hi => by rw [hk1 i hi]; exact hV.1 i hi, fun i j hi hj => by rw [hk1 i hi, hk1 j hj]; exact hV.2 i j hi hj⟩
  have hZ : ∀ i, i < 9 → vk_R (s_O i).1 (s_O i).2.1 (s_O i).2.2 (aK i) s := fun i hi => by
    rw [hk1 i hi]
    exact vk_R.of (hts _ (of_decide_eq_true (List.all_eq_true.mp n_6 i (List.mem_range.mpr hi)))) (hev i hi)
  have hN : ∀ w ∈ w_N, va_Nw w s := fun w hw => w_nO hw (hts w (of_decide_eq_true (List.all_eq_true.mp n_7 w hw)))
  have hz3 : va_Z "jdk/internal/util/Preconditions" "SIOOBE_FORMATTER" "Ljava/util/function/BiFunction;" (c_v s.heap.size aK b (.float 3000)) (fun q => s.heap.size ≤ q) s s.heap := by
    have : aK 3000 = z := by rw [haK]; rfl
    rw [c_f, if_pos rfl, this]
    exact hz
  have hcl : ∀ k : Nat, ∃ d : ClassId × (Nat → Nat), ∀ q : vw_C, a_cls[k]? = some q → u_Kn s q.1 q.2.1 q.2.2 d.1 d.2 := by
    intro k
    cases hk : c_R[k]? with
    | none => exact ⟨(0, fun _ => 0), fun q hq => by rw [a_cls_R, List.getElem?_map, hk] at hq; cases hq⟩
    | some r =>
      obtain ⟨C, T, N, ty⟩ := r
      obtain ⟨h2, h3⟩ := sm_cl hk
      obtain ⟨cC, iS, h4⟩ := u_known htb h3.1 (htb _ h3.2.2.2.1)
      refine ⟨(cC, iS), fun q hq => ?_⟩
      cases h2.symm.trans hq
      exact h4
  obtain ⟨d, hd⟩ := Classical.axiomOfChoice hcl
  have hty : ∀ t : FieldType, Cond.arrayClass t ∈ t_b → (∀ (U : State) (cA : ClassId), U.vm.findClass ("[" ++ t.toString) = some cA → va_RA U cA t) → ∃ cA : ClassId, ArrOfT s cA t ∧ va_RA s cA t := by
    intro t ht hra
    obtain ⟨cA, kA, comp, g1, g2, g3⟩ := Cond.arrayClass_spec (htb _ ht)
    exact ⟨cA, fun n z => ⟨fun k h => (by cases h), kA, g2, comp, g3⟩, hra s cA g1⟩
  obtain ⟨d1, e1⟩ := hty .int o_tint (fun _ _ z => z)
  obtain ⟨d2, e2⟩ := hty .byte o_tbyte (fun _ _ z => z)
  obtain ⟨d3, e3⟩ := hty .char o_tchar (fun _ _ z => z)
  obtain ⟨d4, e4⟩ := hty .boolean o_tboolean (fun _ _ z => z)
  obtain ⟨d5, e5⟩ := hty .long o_tlong (fun _ _ z => z)
  obtain ⟨dA, hdA⟩ : ∃ dA : FieldType → ClassId, dA .int = d1 ∧ dA .byte = d2 ∧ dA .char = d3 ∧ dA .boolean = d4 ∧ dA .long = d5 := ⟨fun t => match t with
    | .int => d1
    | .byte => d2
    | .char => d3
    | .boolean => d4
    | _ => d5, rfl, rfl, rfl, rfl, rfl⟩
  obtain ⟨x1, x2, x3, x4, x5⟩ := hdA
  have hK : va_K (fun k => (d k).1, fun k => (d k).2) a_cls (a_ty dA) s := by
    refine ⟨fun k q hq => hd k q hq, fun k q hq => ?_⟩
    unfold a_ty at hq
    match k, hq with
    | 0, hq => cases hq; rw [x1]; exact e1
    | 1, hq => cases hq; rw [x2]; exact e2
    | 2, hq => cases hq; rw [x3]; exact e3
    | 3, hq => cases hq; rw [x4]; exact e4
    | 4, hq => cases hq; rw [x5]; exact e5
    | k + 5, hq => simp at hq
  have hl := lv_entry ([.ref b]) (n := 4) (Nat.le_of_ble_eq_true rfl)
  rw [lg_entry_eq]
  generalize (lg_sl ([.ref b]) ++ List.replicate (4 - (lg_sl ([.ref b])).length) Slot.unset).toArray = ls at hl ⊢
  have hl2 : lv_has ls (m_l 0) (c_l s.heap.size aK b e_L) := by
    have e6 : c_l s.heap.size aK b e_L = [(0, .ref b)] := by
      unfold c_l e_L
      rw [List.map_cons, c_fl (by decide), if_pos rfl]
      rfl
    rw [e6]
    exact hl
  have C1 : w_C p room_1 s m #[Value.ref b] meth c s.heap.size (fun k => (d k).1) (fun k => (d k).2) dA aK kV b L xs 0 0 :=
    ⟨hx, hb, hml, hown, htb, hr, hlocks, fun z => absurd z (by decide), hK, hN, hZ, hV2, hX, hbl, rfl, hk2, hz1, hz3, by decide, by decide⟩
  have hP0 : va_P (fun k => (d k).1, fun k => (d k).2) a_cls (a_w s.heap.size aK b dA e_H.1 e_H.2.2) s.heap := fun k q hq => by
    unfold a_w e_H at hq
    simp at hq
  refine sim L xs f (st := []) (n0 := 0) (k0 := 0) hrun C1 hl2 ⟨hP0, va_S.rf, rfl, rfl⟩ (by show h'.1 ≤ 0 + 600000; omega) (by show h'.2.1 ≤ 0 + 7302250; omega) ?_
  intro H' locs' cells' slots' pc' ls' la' st' i ri hi hst hw
  obtain ⟨n, hdc, hn, -⟩ := a_ins_spec hi
  obtain ⟨hP, hS, g1, g2⟩ := hw
  rcases a_st_ret hst with ⟨rfl, x, t, rfl, -, -, hv⟩ | ⟨-, x, -, -, hv⟩ | ⟨-, -, -, hv⟩
  · obtain rfl := w_len 0 hn rfl
    cases hv
    refine va_forget (fun q hq => hS.2.2 q hq) ?_
    refine W.widen (k := 600000) (n := 7302250) (by omega) (by omega) ?_
    exact lw_ret hx hb hr hlocks hdc
  · cases hv
  · cases hv
end
section
/-! A LOGIC OVER THE ABSTRACT MACHINE'S RUNS: Re .. Q: the run from here ends, with Q -/
def Re (L : Nat) (xs : Nat → Int32) (mi pc : Nat) (l : AL) (st : List Value) (h : AH) (Q : Option Value → AH → Prop) : Prop := ∃ f r h', a_run L xs f mi pc l st h = some (r, h') ∧ Q r h'
/-- a value of an int -/
abbrev V (z : Int) : Value := .int (Int32.ofInt z)
section RE
variable {L : Nat} {xs : Nat → Int32} {mi pc : Nat} {l : AL} {st : List Value} {h : AH} {Q : Option Value → AH → Prop}
theorem a_run_up : ∀ (f : Nat) {mi pc : Nat} {l : AL} {st : List Value} {h : AH} {x : Option Value × AH}, a_run L xs f mi pc l st h = some x → ∀ k, a_run L xs (f + k) mi pc l st h = some x
  | 0, _, _, _, _, _, _, z, _ => by cases z
  | f + 1, mi, pc, l, st, h, x, z, k => by
    rw [show f + 1 + k = (f + k) + 1 by omega]
    unfold a_run at z ⊢
    split at z
    · cases z
    · rename_i i r hi
      try rw [hi]
      try dsimp only
      split at z
      · cases z
      · rename_i hs
        try rw [hs]
        exact a_run_up f z k
      · rename_i hs
        try rw [hs]
        exact z
      · rename_i hs
        try rw [hs]
        try dsimp only
        split at z
        · cases z
        · rename_i hc
          rw [a_run_up f hc k]
          exact a_run_up f z k
theorem Re.mono {Q' : Option Value → AH → Prop} (H : Re L xs mi pc l st h Q) (k : ∀ r h', Q r h' → Q' r h') : Re L xs mi pc l st h Q' := by
  obtain ⟨f, r, h', h1, h2⟩ := H
  exact ⟨f, r, h', h1, k r h' h2⟩
theorem re_nx {i : Instr} {r : AR} {pc' : Nat} {l' : AL} {st' : List Value} {h' : AH} (hi : a_ins mi pc = some (i, r)) (hs : a_st L xs mi pc l st h i r = some (.inl (pc', l', st', h'))) (k : Re L xs mi pc' l' st' h' Q) : Re L xs mi pc l st h Q := by
  obtain ⟨f, r, h', h1, h2⟩ := k
  refine ⟨f + 1, r, h', ?_, h2⟩
  unfold a_run
  rw [hi]
  dsimp only
  rw [hs]
  exact h1
theorem re_ret {i : Instr} {r : AR} {v : Option Value} (hi : a_ins mi pc = some (i, r)) (hs : a_st L xs mi pc l st h i r = some (.inr (.inl v))) (k : Q v h) : Re L xs mi pc l st h Q := by
  refine ⟨1, v, h, ?_, k⟩
  unfold a_run
  rw [hi]
  dsimp only
  rw [hs]
theorem re_call {i : Instr} {r : AR} {mj : Nat} {as rest : List Value} (hi : a_ins mi pc = some (i, r)) (hs : a_st L xs mi pc l st h i r = some (.inr (.inr (mj, as, rest)))) (k : Re L xs mj 0 (lv_args 0 as) [] h (fun v h' => Re L xs mi (pc + 3) l (v.toList ++ rest) h' Q)) : Re L xs mi pc l st h Q := by
  obtain ⟨f, v, h1, e1, g, r2, h2, e2, hq⟩ := k
  refine ⟨f + g + 1, r2, h2, ?_, hq⟩
  unfold a_run
  rw [hi]
  dsimp only
  rw [hs]
  dsimp only
  rw [a_run_up f e1 g]
  dsimp only
  rw [Nat.add_comm f g]
  exact a_run_up g e2 f
abbrev inR (z : Int) : Prop := -2147483648 ≤ z ∧ z < 2147483648
theorem oI {z : Int} (h : inR z) : (Int32.ofInt z).toInt = z := Int32.toInt_ofInt_of_le (by simpa using h.1) (by simpa using h.2)
theorem oI_lt {a b : Int} (ha : inR a) (hb : inR b) : Int32.ofInt a < Int32.ofInt b ↔ a < b := by rw [Int32.lt_iff_toInt_lt, oI ha, oI hb]
theorem oI_le {a b : Int} (ha : inR a) (hb : inR b) : Int32.ofInt a ≤ Int32.ofInt b ↔ a ≤ b := by rw [Int32.le_iff_toInt_le, oI ha, oI hb]
theorem oI_eq {a b : Int} (ha : inR a) (hb : inR b) : Int32.ofInt a = Int32.ofInt b ↔ a = b := by rw [← Int32.toInt_inj, oI ha, oI hb]
theorem oI_add (a b : Int) : Int32.ofInt a + Int32.ofInt b = Int32.ofInt (a + b) := (Int32.ofInt_add a b).symm
theorem oI_sub (a b : Int) : Int32.ofInt a - Int32.ofInt b = Int32.ofInt (a - b) := (Int32.ofInt_sub a b).symm
theorem oI_mul (a b : Int) : Int32.ofInt a * Int32.ofInt b = Int32.ofInt (a * b) := (Int32.ofInt_mul a b).symm
theorem oI_cl {z : Int} (h : 0 ≤ z) (h2 : z < 2147483648) : (Int32.ofInt z).toNatClampNeg = z.toNat := by
  show (Int32.ofInt z).toInt.toNat = z.toNat
  rw [oI ⟨by omega, h2⟩]
theorem oI_of (x : Int32) : x = Int32.ofInt x.toInt := (Int32.ofInt_toInt x).symm
-- pure rows
theorem r_iconst {v : Int} {r : AR} (hi : a_ins mi pc = some (.iconst v, r)) (k : Re L xs mi (pc + 1) l (V v :: st) h Q) : Re L xs mi pc l st h Q := re_nx hi rfl k
theorem r_bipush {v : Int} {r : AR} (hi : a_ins mi pc = some (.bipush v, r)) (hv : (Int8.ofInt v).toInt32 = Int32.ofInt v) (k : Re L xs mi (pc + 2) l (V v :: st) h Q) : Re L xs mi pc l st h Q := re_nx hi rfl (by rw [hv]; exact k)
theorem r_sipush {v : Int} {r : AR} (hi : a_ins mi pc = some (.sipush v, r)) (hv : (Int16.ofInt v).toInt32 = Int32.ofInt v) (k : Re L xs mi (pc + 3) l (V v :: st) h Q) : Re L xs mi pc l st h Q := re_nx hi rfl (by rw [hv]; exact k)
theorem r_lconst {v : Fin 2} {r : AR} (hi : a_ins mi pc = some (.lconst v, r)) (k : Re L xs mi (pc + 1) l (.long (Int64.ofNat v) :: st) h Q) : Re L xs mi pc l st h Q := re_nx hi rfl k
theorem r_ldc {i x p : Nat} {v : Int} (hi : a_ins mi pc = some (.ldc i, (0, x, p))) (hv : i_V.getD x 0 = Int32.ofInt v) (k : Re L xs mi (pc + 2) l (V v :: st) h Q) : Re L xs mi pc l st h Q := re_nx hi rfl (by rw [hv]; exact k)
theorem r_ldcw {i x p : Nat} {v : Int} (hi : a_ins mi pc = some (.ldc_w i, (0, x, p))) (hv : i_V.getD x 0 = Int32.ofInt v) (k : Re L xs mi (pc + 3) l (V v :: st) h Q) : Re L xs mi pc l st h Q := re_nx hi rfl (by rw [hv]; exact k)
theorem r_ldcs {i x p : Nat} {s : UInt32} (hi : a_ins mi pc = some (.ldc i, (1, x, p))) (hv : UInt32.ofNat x = s) (k : Re L xs mi (pc + 2) l (.float s :: st) h Q) : Re L xs mi pc l st h Q := re_nx hi rfl (by rw [hv]; exact k)
theorem r_ldc2 {i x p : Nat} {v : Int64} (hi : a_ins mi pc = some (.ldc2_w i, (0, x, p))) (hv : l_V.getD x 0 = v) (k : Re L xs mi (pc + 3) l (.long v :: st) h Q) : Re L xs mi pc l st h Q := re_nx hi rfl (by rw [hv]; exact k)
theorem r_iload_n {n : Fin 4} {r : AR} {x : Int32} (hi : a_ins mi pc = some (.iload_n n, r)) (hg : l_g l n = some (.int x)) (k : Re L xs mi (pc + 1) l (.int x :: st) h Q) : Re L xs mi pc l st h Q := re_nx hi (by show (match l_g l n with | some (.int x) => a_nx (pc + 1) l (.int x :: st) h | _ => none) = _; rw [hg]; rfl) k
theorem r_iload {n : Nat} {r : AR} {x : Int32} (hi : a_ins mi pc = some (.iload n, r)) (hg : l_g l n = some (.int x)) (k : Re L xs mi (pc + 2) l (.int x :: st) h Q) : Re L xs mi pc l st h Q := re_nx hi (by show (match l_g l n with | some (.int x) => a_nx (pc + 2) l (.int x :: st) h | _ => none) = _; rw [hg]; rfl) k
theorem r_lload_n {n : Fin 4} {r : AR} {x : Int64} (hi : a_ins mi pc = some (.lload_n n, r)) (hg : l_g l n = some (.long x)) (k : Re L xs mi (pc + 1) l (.long x :: st) h Q) : Re L xs mi pc l st h Q := re_nx hi (by show (match l_g l n with | some (.long x) => a_nx (pc + 1) l (.long x :: st) h | _ => none) = _; rw [hg]; rfl) k
theorem r_lload {n : Nat} {r : AR} {x : Int64} (hi : a_ins mi pc = some (.lload n, r)) (hg : l_g l n = some (.long x)) (k : Re L xs mi (pc + 2) l (.long x :: st) h Q) : Re L xs mi pc l st h Q := re_nx hi (by show (match l_g l n with | some (.long x) => a_nx (pc + 2) l (.long x :: st) h | _ => none) = _; rw [hg]; rfl) k
theorem r_aload_n {n : Fin 4} {r : AR} {x : Nat} (hi : a_ins mi pc = some (.aload_n n, r)) (hg : l_g l n = some (.ref x)) (k : Re L xs mi (pc + 1) l (.ref x :: st) h Q) : Re L xs mi pc l st h Q := re_nx hi (by show (match l_g l n with | some (.ref x) => a_nx (pc + 1) l (.ref x :: st) h | some (.float x) => if x = 3000 then none else a_nx (pc + 1) l (.float x :: st) h | _ => none) = _; rw [hg]; rfl) k
theorem r_aload {n : Nat} {r : AR} {x : Nat} (hi : a_ins mi pc = some (.aload n, r)) (hg : l_g l n = some (.ref x)) (k : Re L xs mi (pc + 2) l (.ref x :: st) h Q) : Re L xs mi pc l st h Q := re_nx hi (by show (match l_g l n with | some (.ref x) => a_nx (pc + 2) l (.ref x :: st) h | some (.float x) => if x = 3000 then none else a_nx (pc + 2) l (.float x :: st) h | _ => none) = _; rw [hg]; rfl) k
theorem r_aloads_n {n : Fin 4} {r : AR} {x : UInt32} (hi : a_ins mi pc = some (.aload_n n, r)) (hg : l_g l n = some (.float x)) (hx : ¬ x = 3000) (k : Re L xs mi (pc + 1) l (.float x :: st) h Q) : Re L xs mi pc l st h Q := re_nx hi (by show (match l_g l n with | some (.ref x) => a_nx (pc + 1) l (.ref x :: st) h | some (.float x) => if x = 3000 then none else a_nx (pc + 1) l (.float x :: st) h | _ => none) = _; rw [hg]; dsimp only; rw [if_neg hx]; rfl) k
theorem r_istore_n {n : Fin 4} {r : AR} {x : Int32} {l' : AL} (hi : a_ins mi pc = some (.istore_n n, r)) (hn : (n : Nat) < m_l mi) (hl : l_s l n (.int x) = l') (k : Re L xs mi (pc + 1) l' st h Q) : Re L xs mi pc l (.int x :: st) h Q := re_nx hi (by show (if (n : Nat) < m_l mi then a_nx (pc + 1) (l_s l n (.int x)) st h else none) = _; rw [if_pos hn, hl]; rfl) k
theorem r_istore {n : Nat} {r : AR} {x : Int32} {l' : AL} (hi : a_ins mi pc = some (.istore n, r)) (hn : n < m_l mi) (hl : l_s l n (.int x) = l') (k : Re L xs mi (pc + 2) l' st h Q) : Re L xs mi pc l (.int x :: st) h Q := re_nx hi (by show (if n < m_l mi then a_nx (pc + 2) (l_s l n (.int x)) st h else none) = _; rw [if_pos hn, hl]; rfl) k
theorem r_astore_n {n : Fin 4} {r : AR} {x : Nat} {l' : AL} (hi : a_ins mi pc = some (.astore_n n, r)) (hn : (n : Nat) < m_l mi) (hl : l_s l n (.ref x) = l') (k : Re L xs mi (pc + 1) l' st h Q) : Re L xs mi pc l (.ref x :: st) h Q := re_nx hi (by show (if (n : Nat) < m_l mi then a_nx (pc + 1) (l_s l n (.ref x)) st h else none) = _; rw [if_pos hn, hl]; rfl) k
theorem r_astore {n : Nat} {r : AR} {x : Nat} {l' : AL} (hi : a_ins mi pc = some (.astore n, r)) (hn : n < m_l mi) (hl : l_s l n (.ref x) = l') (k : Re L xs mi (pc + 2) l' st h Q) : Re L xs mi pc l (.ref x :: st) h Q := re_nx hi (by show (if n < m_l mi then a_nx (pc + 2) (l_s l n (.ref x)) st h else none) = _; rw [if_pos hn, hl]; rfl) k
theorem r_lstore_n {n : Fin 4} {r : AR} {x : Int64} {l' : AL} (hi : a_ins mi pc = some (.lstore_n n, r)) (hn : (n : Nat) + 1 < m_l mi) (hl : l_s2 l n (.long x) = l') (k : Re L xs mi (pc + 1) l' st h Q) : Re L xs mi pc l (.long x :: st) h Q := re_nx hi (by show (if (n : Nat) + 1 < m_l mi then a_nx (pc + 1) (l_s2 l n (.long x)) st h else none) = _; rw [if_pos hn, hl]; rfl) k
theorem r_iinc {n : Nat} {v z : Int} {r : AR} {l' : AL} (hi : a_ins mi pc = some (.iinc n v, r)) (hg : l_g l n = some (V z)) (hn : n < m_l mi) (hl : l_s l n (V (z + v)) = l') (k : Re L xs mi (pc + 3) l' st h Q) : Re L xs mi pc l st h Q := re_nx hi (by show (match l_g l n with | some (.int x) => if n < m_l mi then a_nx (pc + 3) (l_s l n (.int (x + Int32.ofInt v))) st h else none | _ => none) = _; rw [hg]; dsimp only; rw [if_pos hn, oI_add, hl]; rfl) k
theorem r_iadd {a b : Int} {r : AR} (hi : a_ins mi pc = some (.iadd, r)) (k : Re L xs mi (pc + 1) l (V (a + b) :: st) h Q) : Re L xs mi pc l (V b :: V a :: st) h Q := re_nx hi rfl (by rw [oI_add]; exact k)
theorem r_isub {a b : Int} {r : AR} (hi : a_ins mi pc = some (.isub, r)) (k : Re L xs mi (pc + 1) l (V (a - b) :: st) h Q) : Re L xs mi pc l (V b :: V a :: st) h Q := re_nx hi rfl (by rw [oI_sub]; exact k)
theorem r_imul {a b : Int} {r : AR} (hi : a_ins mi pc = some (.imul, r)) (k : Re L xs mi (pc + 1) l (V (a * b) :: st) h Q) : Re L xs mi pc l (V b :: V a :: st) h Q := re_nx hi rfl (by rw [oI_mul]; exact k)
/-- any operation of two ints, its answer given as a number -/
theorem r_bin {x y v : Int32} {z : Int} {i : Instr} {r : AR} (hi : a_ins mi pc = some (i, r)) (hs : a_st L xs mi pc l (.int y :: .int x :: st) h i r = some (.inl (pc + 1, l, .int v :: st, h))) (hv : v = Int32.ofInt z) (k : Re L xs mi (pc + 1) l (V z :: st) h Q) : Re L xs mi pc l (.int y :: .int x :: st) h Q := re_nx hi hs (by rw [hv]; exact k)
theorem r_un {x v : Int32} {z : Int} {i : Instr} {r : AR} (hi : a_ins mi pc = some (i, r)) (hs : a_st L xs mi pc l (.int x :: st) h i r = some (.inl (pc + 1, l, .int v :: st, h))) (hv : v = Int32.ofInt z) (k : Re L xs mi (pc + 1) l (V z :: st) h Q) : Re L xs mi pc l (.int x :: st) h Q := re_nx hi hs (by rw [hv]; exact k)
theorem r_go {off : Int} {r : AR} {t : Nat} (hi : a_ins mi pc = some (.goto off, r)) (ht : (pc : Int) + off = (t : Int)) (k : Re L xs mi t l st h Q) : Re L xs mi pc l st h Q := re_nx hi (by show a_go pc off l st h = _; unfold a_go; rw [if_pos (by omega), ht]; rfl) k
theorem a_br_t {c : Prop} [Decidable c] {off : Int} {t : Nat} (hc : c) (ht : (pc : Int) + off = (t : Int)) : a_br c pc off l st h = some (.inl (t, l, st, h)) := by unfold a_br; rw [if_pos (by omega), if_pos hc, ht]; rfl
theorem a_br_f {c : Prop} [Decidable c] {off : Int} {t : Nat} (hc : ¬ c) (ht : (pc : Int) + off = (t : Int)) : a_br c pc off l st h = some (.inl (pc + 3, l, st, h)) := by unfold a_br; rw [if_pos (by omega), if_neg hc]; rfl
end RE
end
section
/-! CELLS BY A LAYOUT AND DATA: F fields that are references or longs, G int fields, A int arrays, B long arrays -/
abbrev LK : Type := Nat ⊕ (FieldType × Nat)
def isI (ci k : Nat) : Bool := match c_R[ci]? with
  | some (_, _, _, ty) => (match ty k with
    | .int => true
    | .boolean => true
    | .byte => true
    | .char => true
    | .short => true
    | _ => false)
  | none => false
def nF (ci : Nat) : Nat := match c_R[ci]? with
  | some (_, _, N, _) => N
  | none => 0
def fsl (ci : Nat) (f : Nat → Value) (g : Nat → Int) : List Value := (List.range (nF ci)).map (fun k => if isI ci k = true then V (g k) else f k)
def lkn (k : LK) : Nat := match k with
  | .inl ci => nF ci
  | .inr (_, n) => n
def up2 {α : Type} (f : Nat → Nat → α) (a k : Nat) (v : α) : Nat → Nat → α := fun x y => if x = a ∧ y = k then v else f x y
def hcl (k : LK) (f : Nat → Value) (g a : Nat → Int) (b : Nat → Int64) : AC := match k with
  | .inl ci => .inr (ci, fsl ci f g)
  | .inr (t, n) => if t = .long then .inl (.long, n, .inr (.inl b)) else .inl (t, n, .inl (fun i => Int32.ofInt (a i)))
def HP (ly : List LK) (F : Nat → Nat → Value) (G A : Nat → Nat → Int) (B : Nat → Nat → Int64) : AH := (ly.length, (ly.map lkn).sum, fun a => match ly[a]? with
  | some k => hcl k (F a) (G a) (A a) (B a)
  | none => .inr (0, []))
theorem up2_s {α : Type} (f : Nat → Nat → α) (a k : Nat) (v : α) : up2 f a k v a k = v := by simp [up2]
theorem up2_n {α : Type} {f : Nat → Nat → α} {a k x y : Nat} {v : α} (h : ¬ (x = a ∧ y = k)) : up2 f a k v x y = f x y := by simp only [up2, if_neg h]
theorem up2_a {α : Type} {f : Nat → Nat → α} {a k x : Nat} {v : α} (h : ¬ x = a) : up2 f a k v x = f x := by funext y; exact up2_n (fun z => h z.1)
section HPS
variable {ly : List LK} {F : Nat → Nat → Value} {G A : Nat → Nat → Int} {B : Nat → Nat → Int64}
theorem ly_lt {a : Nat} {k : LK} (h : ly[a]? = some k) : a < ly.length := (List.getElem?_eq_some_iff.mp h).1
theorem HP_cell {a : Nat} {k : LK} (h : ly[a]? = some k) : (HP ly F G A B).2.2 a = hcl k (F a) (G a) (A a) (B a) := by
  show (match ly[a]? with | some k => hcl k (F a) (G a) (A a) (B a) | none => .inr (0, [])) = _
  rw [h]
theorem HP_ob {a ci : Nat} (h : ly[a]? = some (.inl ci)) : h_ob (HP ly F G A B) a = some (ci, fsl ci (F a) (G a)) := by
  unfold h_ob
  rw [if_pos (show a < (HP ly F G A B).1 from ly_lt h), HP_cell h]
  rfl
theorem HP_ai {a n : Nat} {t : FieldType} (h : ly[a]? = some (.inr (t, n))) (ht : ¬ t = .long) : h_ai (HP ly F G A B) a t = some (n, fun i => Int32.ofInt (A a i)) := by
  unfold h_ai
  rw [if_pos (show a < (HP ly F G A B).1 from ly_lt h), HP_cell h]
  unfold hcl
  dsimp only
  rw [if_neg ht]
  dsimp only
  rw [if_pos rfl]
theorem HP_an {a n : Nat} {t t' : FieldType} (h : ly[a]? = some (.inr (t, n))) (ht : ¬ t = .long) (hn : ¬ t = t') : h_ai (HP ly F G A B) a t' = none := by
  unfold h_ai
  rw [if_pos (show a < (HP ly F G A B).1 from ly_lt h), HP_cell h]
  unfold hcl
  dsimp only
  rw [if_neg ht]
  dsimp only
  rw [if_neg hn]
theorem HP_al {a n : Nat} (h : ly[a]? = some (.inr (.long, n))) : h_al (HP ly F G A B) a = some (n, B a) := by
  unfold h_al
  rw [if_pos (show a < (HP ly F G A B).1 from ly_lt h), HP_cell h]
  unfold hcl
  dsimp only
  rw [if_pos rfl]
theorem fsl_get {ci k : Nat} {f : Nat → Value} {g : Nat → Int} (h : k < nF ci) : (fsl ci f g)[k]? = some (if isI ci k = true then V (g k) else f k) := by
  unfold fsl
  rw [List.getElem?_map, List.getElem?_range h]
  rfl
theorem fsl_len {ci : Nat} {f : Nat → Value} {g : Nat → Int} : (fsl ci f g).length = nF ci := by
  unfold fsl
  rw [List.length_map, List.length_range]
theorem fsl_set {ci k : Nat} {f f' : Nat → Value} {g g' : Nat → Int} {v : Value} (hk : (if isI ci k = true then V (g' k) else f' k) = v) (ho : ∀ j, ¬ j = k → (if isI ci j = true then V (g' j) else f' j) = (if isI ci j = true then V (g j) else f j)) : (fsl ci f g).set k v = fsl ci f' g' := by
  apply List.ext_getElem?
  intro j
  rcases Nat.lt_or_ge j (nF ci) with hj | hj
  · rw [List.getElem?_set, fsl_get hj, fsl_get hj]
    by_cases e : k = j
    · subst e
      rw [if_pos rfl, if_pos (by rw [fsl_len]; exact hj), hk]
    · rw [if_neg e, ho j (fun z => e z.symm)]
  · rw [List.getElem?_eq_none (by rw [List.length_set, fsl_len]; exact hj), List.getElem?_eq_none (by rw [fsl_len]; exact hj)]
theorem HP_up {a : Nat} {k : LK} {c : AC} {F' : Nat → Nat → Value} {G' A' : Nat → Nat → Int} {B' : Nat → Nat → Int64} (h : ly[a]? = some k) (hc : hcl k (F' a) (G' a) (A' a) (B' a) = c) (ho : ∀ x, ¬ x = a → F' x = F x ∧ G' x = G x ∧ A' x = A x ∧ B' x = B x) : h_up (HP ly F G A B) a c = HP ly F' G' A' B' := by
  show ((HP ly F G A B).1, (HP ly F G A B).2.1, va_up (HP ly F G A B).2.2 a c) = HP ly F' G' A' B'
  unfold HP
  congr 2
  funext x
  unfold va_up
  by_cases e : x = a
  · subst e
    rw [if_pos rfl, h]
    exact hc.symm
  · rw [if_neg e]
    obtain ⟨e1, e2, e3, e4⟩ := ho x e
    dsimp only
    rw [e1, e2, e3, e4]
theorem HP_upG {a ci k : Nat} {z : Int} (h : ly[a]? = some (.inl ci)) (hk : isI ci k = true) : h_up (HP ly F G A B) a (.inr (ci, (fsl ci (F a) (G a)).set k (V z))) = HP ly F (up2 G a k z) A B := by
  refine HP_up h ?_ (fun x hx => ⟨rfl, up2_a hx, rfl, rfl⟩)
  unfold hcl
  dsimp only
  rw [fsl_set (f' := F a) (g' := up2 G a k z a)]
  · rw [if_pos hk, up2_s]
  · intro j hj
    rw [up2_n (fun e => hj e.2)]
theorem HP_upF {a ci k : Nat} {v : Value} (h : ly[a]? = some (.inl ci)) (hk : isI ci k = false) : h_up (HP ly F G A B) a (.inr (ci, (fsl ci (F a) (G a)).set k v)) = HP ly (up2 F a k v) G A B := by
  refine HP_up h ?_ (fun x hx => ⟨up2_a hx, rfl, rfl, rfl⟩)
  unfold hcl
  dsimp only
  rw [fsl_set (f' := up2 F a k v a) (g' := G a)]
  · rw [hk, if_neg (by decide), up2_s]
  · intro j hj
    rw [up2_n (fun e => hj e.2)]
theorem HP_upA {a n j : Nat} {t : FieldType} {z : Int} (h : ly[a]? = some (.inr (t, n))) (ht : ¬ t = .long) : h_up (HP ly F G A B) a (.inl (t, n, .inl (upd (fun i => Int32.ofInt (A a i)) j (Int32.ofInt z)))) = HP ly F G (up2 A a j z) B := by
  refine HP_up h ?_ (fun x hx => ⟨rfl, rfl, up2_a hx, rfl⟩)
  unfold hcl
  dsimp only
  rw [if_neg ht]
  congr 4
  funext i
  unfold upd
  by_cases e : i = j
  · subst e
    rw [if_pos rfl, up2_s]
  · rw [if_neg e, up2_n (fun z => e z.2)]
theorem HP_upB {a n j : Nat} {v : Int64} (h : ly[a]? = some (.inr (.long, n))) : h_up (HP ly F G A B) a (.inl (.long, n, .inr (.inl (vp_updL (B a) j v)))) = HP ly F G A (up2 B a j v) := by
  refine HP_up h ?_ (fun x hx => ⟨rfl, rfl, rfl, up2_a hx⟩)
  unfold hcl
  dsimp only
  rw [if_pos rfl]
  congr 5
  funext i
  unfold vp_updL
  by_cases e : i = j
  · subst e
    rw [if_pos rfl, up2_s]
  · rw [if_neg e, up2_n (fun z => e z.2)]
end HPS
def Zr (n : Nat) (F : Nat → Nat → Value) (G A : Nat → Nat → Int) (B : Nat → Nat → Int64) : Prop := (∀ x, n ≤ x → ∀ k, F x k = .null ∧ G x k = 0 ∧ A x k = 0 ∧ B x k = 0)
theorem HP_ps {ly : List LK} {F : Nat → Nat → Value} {G A : Nat → Nat → Int} {B : Nat → Nat → Int64} {k : LK} {c : AC} {n : Nat} (hn : lkn k = n) (hc : hcl k (F ly.length) (G ly.length) (A ly.length) (B ly.length) = c) : h_ps (HP ly F G A B) n c = HP (ly ++ [k]) F G A B := by
  show ((HP ly F G A B).1 + 1, (HP ly F G A B).2.1 + n, va_up (HP ly F G A B).2.2 ly.length c) = HP (ly ++ [k]) F G A B
  unfold HP
  rw [List.length_append, List.map_append, List.sum_append]
  show _ = (ly.length + 1, (ly.map lkn).sum + (lkn k + 0), _)
  rw [hn]
  congr 2
  funext x
  unfold va_up
  by_cases e : x = ly.length
  · subst e
    rw [if_pos rfl, List.getElem?_append_right (Nat.le_refl _), Nat.sub_self]
    exact hc.symm
  · rw [if_neg e]
    dsimp only
    rcases Nat.lt_or_ge x ly.length with hx | hx
    · rw [List.getElem?_append_left hx]
    · rw [List.getElem?_eq_none hx, List.getElem?_eq_none (by rw [List.length_append]; show ly.length + 1 ≤ x; omega)]
end
section
section RULES
variable {L : Nat} {xs : Nat → Int32} {mi pc : Nat} {l : AL} {st : List Value} {h : AH} {Q : Option Value → AH → Prop}
variable {ly : List LK} {F : Nat → Nat → Value} {G A : Nat → Nat → Int} {B : Nat → Nat → Int64}
-- branches
theorem r_eq0 {z off : Int} {t : Nat} {r : AR} (hi : a_ins mi pc = some (.ifCond .eq off, r)) (ht : (pc : Int) + off = (t : Int)) (hz : inR z) (kt : z = 0 → Re L xs mi t l st h Q) (kf : z ≠ 0 → Re L xs mi (pc + 3) l st h Q) : Re L xs mi pc l (V z :: st) h Q := by
  by_cases c : z = 0
  · exact re_nx hi (a_br_t ((oI_eq hz (b := 0) (by decide)).mpr c) ht) (kt c)
  · exact re_nx hi (a_br_f (fun e => c ((oI_eq hz (b := 0) (by decide)).mp e)) ht) (kf c)
theorem r_ne0 {z off : Int} {t : Nat} {r : AR} (hi : a_ins mi pc = some (.ifCond .ne off, r)) (ht : (pc : Int) + off = (t : Int)) (hz : inR z) (kt : z ≠ 0 → Re L xs mi t l st h Q) (kf : z = 0 → Re L xs mi (pc + 3) l st h Q) : Re L xs mi pc l (V z :: st) h Q := by
  by_cases c : z = 0
  · exact re_nx hi (a_br_f (fun e => e ((oI_eq hz (b := 0) (by decide)).mpr c)) ht) (kf c)
  · exact re_nx hi (a_br_t (fun e => c ((oI_eq hz (b := 0) (by decide)).mp e)) ht) (kt c)
theorem r_lt0 {z off : Int} {t : Nat} {r : AR} (hi : a_ins mi pc = some (.ifCond .lt off, r)) (ht : (pc : Int) + off = (t : Int)) (hz : inR z) (kt : z < 0 → Re L xs mi t l st h Q) (kf : 0 ≤ z → Re L xs mi (pc + 3) l st h Q) : Re L xs mi pc l (V z :: st) h Q := by
  by_cases c : z < 0
  · exact re_nx hi (a_br_t ((oI_lt hz (b := 0) (by decide)).mpr c) ht) (kt c)
  · exact re_nx hi (a_br_f (fun e => c ((oI_lt hz (b := 0) (by decide)).mp e)) ht) (kf (by omega))
theorem r_ge0 {z off : Int} {t : Nat} {r : AR} (hi : a_ins mi pc = some (.ifCond .ge off, r)) (ht : (pc : Int) + off = (t : Int)) (hz : inR z) (kt : 0 ≤ z → Re L xs mi t l st h Q) (kf : z < 0 → Re L xs mi (pc + 3) l st h Q) : Re L xs mi pc l (V z :: st) h Q := by
  by_cases c : 0 ≤ z
  · exact re_nx hi (a_br_t ((oI_le (a := 0) (by decide) hz).mpr c) ht) (kt c)
  · exact re_nx hi (a_br_f (fun e => c ((oI_le (a := 0) (by decide) hz).mp e)) ht) (kf (by omega))
theorem r_gt0 {z off : Int} {t : Nat} {r : AR} (hi : a_ins mi pc = some (.ifCond .gt off, r)) (ht : (pc : Int) + off = (t : Int)) (hz : inR z) (kt : 0 < z → Re L xs mi t l st h Q) (kf : z ≤ 0 → Re L xs mi (pc + 3) l st h Q) : Re L xs mi pc l (V z :: st) h Q := by
  by_cases c : 0 < z
  · exact re_nx hi (a_br_t ((oI_lt (a := 0) (by decide) hz).mpr c) ht) (kt c)
  · exact re_nx hi (a_br_f (fun e => c ((oI_lt (a := 0) (by decide) hz).mp e)) ht) (kf (by omega))
theorem r_le0 {z off : Int} {t : Nat} {r : AR} (hi : a_ins mi pc = some (.ifCond .le off, r)) (ht : (pc : Int) + off = (t : Int)) (hz : inR z) (kt : z ≤ 0 → Re L xs mi t l st h Q) (kf : 0 < z → Re L xs mi (pc + 3) l st h Q) : Re L xs mi pc l (V z :: st) h Q := by
  by_cases c : z ≤ 0
  · exact re_nx hi (a_br_t ((oI_le hz (b := 0) (by decide)).mpr c) ht) (kt c)
  · exact re_nx hi (a_br_f (fun e => c ((oI_le hz (b := 0) (by decide)).mp e)) ht) (kf (by omega))
theorem r_ceq {a b off : Int} {t : Nat} {r : AR} (hi : a_ins mi pc = some (.if_icmp .eq off, r)) (ht : (pc : Int) + off = (t : Int)) (ha : inR a) (hb : inR b) (kt : a = b → Re L xs mi t l st h Q) (kf : a ≠ b → Re L xs mi (pc + 3) l st h Q) : Re L xs mi pc l (V b :: V a :: st) h Q := by
  by_cases c : a = b
  · exact re_nx hi (a_br_t ((oI_eq ha hb).mpr c) ht) (kt c)
  · exact re_nx hi (a_br_f (fun e => c ((oI_eq ha hb).mp e)) ht) (kf c)
theorem r_cne {a b off : Int} {t : Nat} {r : AR} (hi : a_ins mi pc = some (.if_icmp .ne off, r)) (ht : (pc : Int) + off = (t : Int)) (ha : inR a) (hb : inR b) (kt : a ≠ b → Re L xs mi t l st h Q) (kf : a = b → Re L xs mi (pc + 3) l st h Q) : Re L xs mi pc l (V b :: V a :: st) h Q := by
  by_cases c : a = b
  · exact re_nx hi (a_br_f (fun e => e ((oI_eq ha hb).mpr c)) ht) (kf c)
  · exact re_nx hi (a_br_t (fun e => c ((oI_eq ha hb).mp e)) ht) (kt c)
theorem r_clt {a b off : Int} {t : Nat} {r : AR} (hi : a_ins mi pc = some (.if_icmp .lt off, r)) (ht : (pc : Int) + off = (t : Int)) (ha : inR a) (hb : inR b) (kt : a < b → Re L xs mi t l st h Q) (kf : b ≤ a → Re L xs mi (pc + 3) l st h Q) : Re L xs mi pc l (V b :: V a :: st) h Q := by
  by_cases c : a < b
  · exact re_nx hi (a_br_t ((oI_lt ha hb).mpr c) ht) (kt c)
  · exact re_nx hi (a_br_f (fun e => c ((oI_lt ha hb).mp e)) ht) (kf (by omega))
theorem r_cge {a b off : Int} {t : Nat} {r : AR} (hi : a_ins mi pc = some (.if_icmp .ge off, r)) (ht : (pc : Int) + off = (t : Int)) (ha : inR a) (hb : inR b) (kt : b ≤ a → Re L xs mi t l st h Q) (kf : a < b → Re L xs mi (pc + 3) l st h Q) : Re L xs mi pc l (V b :: V a :: st) h Q := by
  by_cases c : b ≤ a
  · exact re_nx hi (a_br_t ((oI_le hb ha).mpr c) ht) (kt c)
  · exact re_nx hi (a_br_f (fun e => c ((oI_le hb ha).mp e)) ht) (kf (by omega))
theorem r_cgt {a b off : Int} {t : Nat} {r : AR} (hi : a_ins mi pc = some (.if_icmp .gt off, r)) (ht : (pc : Int) + off = (t : Int)) (ha : inR a) (hb : inR b) (kt : b < a → Re L xs mi t l st h Q) (kf : a ≤ b → Re L xs mi (pc + 3) l st h Q) : Re L xs mi pc l (V b :: V a :: st) h Q := by
  by_cases c : b < a
  · exact re_nx hi (a_br_t ((oI_lt hb ha).mpr c) ht) (kt c)
  · exact re_nx hi (a_br_f (fun e => c ((oI_lt hb ha).mp e)) ht) (kf (by omega))
theorem r_cle {a b off : Int} {t : Nat} {r : AR} (hi : a_ins mi pc = some (.if_icmp .le off, r)) (ht : (pc : Int) + off = (t : Int)) (ha : inR a) (hb : inR b) (kt : a ≤ b → Re L xs mi t l st h Q) (kf : b < a → Re L xs mi (pc + 3) l st h Q) : Re L xs mi pc l (V b :: V a :: st) h Q := by
  by_cases c : a ≤ b
  · exact re_nx hi (a_br_t ((oI_le ha hb).mpr c) ht) (kt c)
  · exact re_nx hi (a_br_f (fun e => c ((oI_le ha hb).mp e)) ht) (kf (by omega))
-- fields
theorem r_getI {i a ci k p : Nat} (hi : a_ins mi pc = some (.getfield i, (ci, k, p))) (hk : (decide (k < nF ci) && isI ci k) = true) (hl : ly[a]? = some (.inl ci)) (kk : Re L xs mi (pc + 3) l (V (G a k) :: st) (HP ly F G A B) Q) : Re L xs mi pc l (.ref a :: st) (HP ly F G A B) Q := by
  simp only [Bool.and_eq_true, decide_eq_true_eq] at hk
  refine re_nx hi ?_ kk
  unfold a_st
  dsimp only
  rw [HP_ob hl]
  dsimp only
  rw [if_pos rfl, fsl_get hk.1, if_pos hk.2]
  rfl
theorem r_getF {i a ci k p : Nat} {v : Value} (hi : a_ins mi pc = some (.getfield i, (ci, k, p))) (hk : (decide (k < nF ci) && !isI ci k) = true) (hl : ly[a]? = some (.inl ci)) (hv : F a k = v) (kk : Re L xs mi (pc + 3) l (v :: st) (HP ly F G A B) Q) : Re L xs mi pc l (.ref a :: st) (HP ly F G A B) Q := by
  simp only [Bool.and_eq_true, Bool.not_eq_true', decide_eq_true_eq] at hk
  refine re_nx hi ?_ kk
  unfold a_st
  dsimp only
  rw [HP_ob hl]
  dsimp only
  rw [if_pos rfl, fsl_get hk.1, if_neg (by rw [hk.2]; decide), hv]
  rfl
/-- may method mi put into field k of class ci, and of which type is it -/
def pt (mi ci k : Nat) (t : FieldType) : Bool := match c_R[ci]? with
  | some (_, T, N, ty) => decide (k < N) && decide (ty k = t) && (!(T k).2.2.2 || (decide ((T k).1 = o_N.getD (m_o mi) "") && decide ((m_y mi).name = "<init>")))
  | none => false
def ptR (mi ci k : Nat) : Bool := match c_R[ci]? with
  | some (_, T, N, ty) => decide (k < N) && (match ty k with
    | .object _ => true
    | .array _ => true
    | _ => false) && (!(T k).2.2.2 || (decide ((T k).1 = o_N.getD (m_o mi) "") && decide ((m_y mi).name = "<init>")))
  | none => false
theorem pt_ok {ci k : Nat} {t : FieldType} {v : Value} (hp : pt mi ci k t = true) (hf : a_fk v = true) (h1 : narrow t v = v) (h2 : fits t v = true) : a_put mi ci k v = true ∧ k < nF ci := by
  unfold pt at hp
  unfold a_put nF
  split at hp
  · rename_i T N ty hc
    simp only [Bool.and_eq_true, decide_eq_true_eq] at hp
    obtain ⟨⟨h3, h4⟩, h5⟩ := hp
    rw [hc]
    dsimp only
    rw [h4]
    simp only [Bool.and_eq_true, decide_eq_true_eq]
    exact ⟨⟨⟨⟨⟨h3, hf⟩, h1⟩, h2⟩, h5⟩, h3⟩
  · cases hp
theorem ptR_ok {ci k : Nat} {b : Nat} (hp : ptR mi ci k = true) : a_put mi ci k (.ref b) = true ∧ k < nF ci := by
  unfold ptR at hp
  unfold a_put nF
  split at hp
  · rename_i T N ty hc
    simp only [Bool.and_eq_true, decide_eq_true_eq] at hp
    obtain ⟨⟨h3, h4⟩, h5⟩ := hp
    rw [hc]
    dsimp only
    simp only [Bool.and_eq_true, decide_eq_true_eq]
    refine ⟨⟨⟨⟨⟨h3, rfl⟩, ?_⟩, ?_⟩, h5⟩, h3⟩
    · cases ty k <;> rfl
    · cases ht : ty k <;> rw [ht] at h4 <;> first | rfl | cases h4
  · cases hp
theorem r_putX {i a ci k p : Nat} {v : Value} (hi : a_ins mi pc = some (.putfield i, (ci, k, p))) (hp : a_put mi ci k v = true ∧ k < nF ci) (hl : ly[a]? = some (.inl ci)) (kk : Re L xs mi (pc + 3) l st (h_up (HP ly F G A B) a (.inr (ci, (fsl ci (F a) (G a)).set k v))) Q) : Re L xs mi pc l (v :: .ref a :: st) (HP ly F G A B) Q := by
  refine re_nx hi ?_ kk
  unfold a_st
  dsimp only
  rw [HP_ob hl]
  dsimp only
  rw [if_pos ⟨rfl, by rw [fsl_len]; exact hp.2, hp.1⟩]
  rfl
theorem r_putI {i a ci k p : Nat} {z : Int} (hi : a_ins mi pc = some (.putfield i, (ci, k, p))) (hp : (pt mi ci k .int && isI ci k) = true) (hl : ly[a]? = some (.inl ci)) (kk : Re L xs mi (pc + 3) l st (HP ly F (up2 G a k z) A B) Q) : Re L xs mi pc l (V z :: .ref a :: st) (HP ly F G A B) Q := by
  simp only [Bool.and_eq_true] at hp
  exact r_putX hi (pt_ok hp.1 rfl rfl rfl) hl (by rw [HP_upG hl hp.2]; exact kk)
theorem r_putZ {i a ci k p : Nat} {z : Int} (hi : a_ins mi pc = some (.putfield i, (ci, k, p))) (hp : (pt mi ci k .boolean && isI ci k) = true) (hl : ly[a]? = some (.inl ci)) (hz : z = 0 ∨ z = 1) (kk : Re L xs mi (pc + 3) l st (HP ly F (up2 G a k z) A B) Q) : Re L xs mi pc l (V z :: .ref a :: st) (HP ly F G A B) Q := by
  simp only [Bool.and_eq_true] at hp
  exact r_putX hi (pt_ok hp.1 rfl (by rcases hz with rfl | rfl <;> rfl) (by rcases hz with rfl | rfl <;> rfl)) hl (by rw [HP_upG hl hp.2]; exact kk)
theorem r_putR {i a ci k p b : Nat} (hi : a_ins mi pc = some (.putfield i, (ci, k, p))) (hp : (ptR mi ci k && !isI ci k) = true) (hl : ly[a]? = some (.inl ci)) (kk : Re L xs mi (pc + 3) l st (HP ly (up2 F a k (.ref b)) G A B) Q) : Re L xs mi pc l (.ref b :: .ref a :: st) (HP ly F G A B) Q := by
  simp only [Bool.and_eq_true, Bool.not_eq_true'] at hp
  exact r_putX hi (ptR_ok hp.1) hl (by rw [HP_upF hl hp.2]; exact kk)
theorem r_putJ {i a ci k p : Nat} {v : Int64} (hi : a_ins mi pc = some (.putfield i, (ci, k, p))) (hp : (pt mi ci k .long && !isI ci k) = true) (hl : ly[a]? = some (.inl ci)) (kk : Re L xs mi (pc + 3) l st (HP ly (up2 F a k (.long v)) G A B) Q) : Re L xs mi pc l (.long v :: .ref a :: st) (HP ly F G A B) Q := by
  simp only [Bool.and_eq_true, Bool.not_eq_true'] at hp
  exact r_putX hi (pt_ok hp.1 rfl rfl rfl) hl (by rw [HP_upF hl hp.2]; exact kk)
-- arrays
theorem inb_ok {z : Int} {n : Nat} (h0 : 0 ≤ z) (h1 : z < n) (hn : n < 2147483648) : a_inb (Int32.ofInt z) n = true := by
  unfold a_inb
  have r0 : inR z := ⟨by omega, by omega⟩
  rw [oI_cl h0 (by omega)]
  have e1 : ¬ Int32.ofInt z < 0 := fun e => by have := (oI_lt r0 (b := 0) (by decide)).mp e; omega
  simp only [Bool.not_eq_true', Bool.or_eq_false_iff, decide_eq_false_iff_not]
  exact ⟨e1, by omega⟩
theorem ld_ok {a n : Nat} {t : FieldType} {z : Int} (hl : ly[a]? = some (.inr (t, n))) (ht : ¬ t = .long) (h0 : 0 ≤ z) (h1 : z < n) (hn : n < 2147483648) : a_ld (HP ly F G A B) a t (Int32.ofInt z) = some (Int32.ofInt (A a z.toNat)) := by
  unfold a_ld
  rw [HP_ai hl ht]
  dsimp only
  rw [if_pos (inb_ok h0 h1 hn), oI_cl h0 (by omega)]
theorem sv_ok {a n : Nat} {t : FieldType} {z v : Int} (hl : ly[a]? = some (.inr (t, n))) (ht : ¬ t = .long) (h0 : 0 ≤ z) (h1 : z < n) (hn : n < 2147483648) : a_sv (HP ly F G A B) a t (Int32.ofInt z) (Int32.ofInt v) = some (HP ly F G (up2 A a z.toNat v) B) := by
  unfold a_sv
  rw [HP_ai hl ht]
  dsimp only
  rw [if_pos (inb_ok h0 h1 hn), oI_cl h0 (by omega), HP_upA hl ht]
theorem ld_no {a n : Nat} {t t' : FieldType} {j : Int32} (hl : ly[a]? = some (.inr (t, n))) (ht : ¬ t = .long) (hn : ¬ t = t') : a_ld (HP ly F G A B) a t' j = none := by
  unfold a_ld
  rw [HP_an hl ht hn]
theorem sv_no {a n : Nat} {t t' : FieldType} {j v : Int32} (hl : ly[a]? = some (.inr (t, n))) (ht : ¬ t = .long) (hn : ¬ t = t') : a_sv (HP ly F G A B) a t' j v = none := by
  unfold a_sv
  rw [HP_an hl ht hn]
theorem r_iald {a n : Nat} {z : Int} {r : AR} (hi : a_ins mi pc = some (.iaload, r)) (hl : ly[a]? = some (.inr (.int, n))) (hn : n < 2147483648) (h0 : 0 ≤ z) (h1 : z < n) (kk : Re L xs mi (pc + 1) l (V (A a z.toNat) :: st) (HP ly F G A B) Q) : Re L xs mi pc l (V z :: .ref a :: st) (HP ly F G A B) Q := by
  refine re_nx hi ?_ kk
  unfold a_st
  dsimp only
  rw [ld_ok hl (by decide) h0 h1 hn]
  rfl
theorem r_cald {a n : Nat} {z : Int} {r : AR} (hi : a_ins mi pc = some (.caload, r)) (hl : ly[a]? = some (.inr (.char, n))) (hn : n < 2147483648) (h0 : 0 ≤ z) (h1 : z < n) (kk : Re L xs mi (pc + 1) l (V (A a z.toNat) :: st) (HP ly F G A B) Q) : Re L xs mi pc l (V z :: .ref a :: st) (HP ly F G A B) Q := by
  refine re_nx hi ?_ kk
  unfold a_st
  dsimp only
  rw [ld_ok hl (by decide) h0 h1 hn]
  rfl
theorem r_bald {a n : Nat} {z : Int} {r : AR} (hi : a_ins mi pc = some (.baload, r)) (hl : ly[a]? = some (.inr (.byte, n))) (hn : n < 2147483648) (h0 : 0 ≤ z) (h1 : z < n) (kk : Re L xs mi (pc + 1) l (V (A a z.toNat) :: st) (HP ly F G A B) Q) : Re L xs mi pc l (V z :: .ref a :: st) (HP ly F G A B) Q := by
  refine re_nx hi ?_ kk
  unfold a_st
  dsimp only
  rw [ld_ok hl (by decide) h0 h1 hn]
  rfl
theorem r_zald {a n : Nat} {z : Int} {r : AR} (hi : a_ins mi pc = some (.baload, r)) (hl : ly[a]? = some (.inr (.boolean, n))) (hn : n < 2147483648) (h0 : 0 ≤ z) (h1 : z < n) (kk : Re L xs mi (pc + 1) l (V (A a z.toNat) :: st) (HP ly F G A B) Q) : Re L xs mi pc l (V z :: .ref a :: st) (HP ly F G A B) Q := by
  refine re_nx hi ?_ kk
  unfold a_st
  dsimp only
  rw [ld_no hl (by decide) (by decide), ld_ok hl (by decide) h0 h1 hn]
  rfl
theorem r_lald {a n : Nat} {z : Int} {r : AR} (hi : a_ins mi pc = some (.laload, r)) (hl : ly[a]? = some (.inr (.long, n))) (hn : n < 2147483648) (h0 : 0 ≤ z) (h1 : z < n) (kk : Re L xs mi (pc + 1) l (.long (B a z.toNat) :: st) (HP ly F G A B) Q) : Re L xs mi pc l (V z :: .ref a :: st) (HP ly F G A B) Q := by
  refine re_nx hi ?_ kk
  unfold a_st
  dsimp only
  rw [HP_al hl]
  dsimp only
  rw [if_pos (inb_ok h0 h1 hn), oI_cl h0 (by omega)]
  rfl
theorem r_iast {a n : Nat} {z v : Int} {r : AR} (hi : a_ins mi pc = some (.iastore, r)) (hl : ly[a]? = some (.inr (.int, n))) (hn : n < 2147483648) (h0 : 0 ≤ z) (h1 : z < n) (kk : Re L xs mi (pc + 1) l st (HP ly F G (up2 A a z.toNat v) B) Q) : Re L xs mi pc l (V v :: V z :: .ref a :: st) (HP ly F G A B) Q := by
  refine re_nx hi ?_ kk
  unfold a_st
  dsimp only
  rw [sv_ok hl (by decide) h0 h1 hn]
  rfl
theorem fb_charX {n : Nat} (h : n < 65536) : (nI n).toUInt32.toUInt16.toUInt32.toInt32 = nI n := by
  apply Int32.toBitVec_inj.1
  apply BitVec.eq_of_toNat_eq
  have e1 : (nI n).toBitVec.toNat = n := by
    show (BitVec.ofNat 32 n).toNat = n
    rw [BitVec.toNat_ofNat, Nat.mod_eq_of_lt (by omega)]
  have e2 : ((nI n).toUInt32.toUInt16.toUInt32).toNat = n := by
    rw [UInt16.toNat_toUInt32, UInt32.toNat_toUInt16]
    show (nI n).toBitVec.toNat % 2 ^ 16 = n
    rw [e1, Nat.mod_eq_of_lt (by omega)]
  rw [e1]
  exact e2
theorem fb_byteX {x : Int32} (h1 : -128 ≤ x.toInt) (h2 : x.toInt < 128) : x.toInt8.toInt32 = x := by
  apply Int32.toInt_inj.1
  rw [Int8.toInt_toInt32, Int32.toInt_toInt8, Int.bmod_eq_of_le (by omega) (by omega)]
theorem nar_c {v : Int} (h0 : 0 ≤ v) (h1 : v < 65536) : vp_nar .char (Int32.ofInt v) = Int32.ofInt v := by
  have : Int32.ofInt v = nI v.toNat := by
    unfold nI
    rw [← Int32.ofInt_eq_ofNat]
    congr 1
    omega
  rw [this, vp_nar_char]
  exact fb_charX (by omega)
theorem nar_b {v : Int} (h0 : -128 ≤ v) (h1 : v < 128) : vp_nar .byte (Int32.ofInt v) = Int32.ofInt v := by
  rw [vp_nar_byte]
  have e := oI (z := v) ⟨by omega, by omega⟩
  exact fb_byteX (by omega) (by omega)
theorem nar_z {v : Int} (h : v = 0 ∨ v = 1) : vp_nar .boolean (Int32.ofInt v) = Int32.ofInt v := by
  rcases h with rfl | rfl <;> rfl
theorem r_cast {a n : Nat} {z v : Int} {r : AR} (hi : a_ins mi pc = some (.castore, r)) (hl : ly[a]? = some (.inr (.char, n))) (hn : n < 2147483648) (h0 : 0 ≤ z) (h1 : z < n) (hv : 0 ≤ v ∧ v < 65536) (kk : Re L xs mi (pc + 1) l st (HP ly F G (up2 A a z.toNat v) B) Q) : Re L xs mi pc l (V v :: V z :: .ref a :: st) (HP ly F G A B) Q := by
  refine re_nx hi ?_ kk
  unfold a_st
  dsimp only
  rw [nar_c hv.1 hv.2, sv_ok hl (by decide) h0 h1 hn]
  rfl
theorem r_bast {a n : Nat} {z v : Int} {r : AR} (hi : a_ins mi pc = some (.bastore, r)) (hl : ly[a]? = some (.inr (.byte, n))) (hn : n < 2147483648) (h0 : 0 ≤ z) (h1 : z < n) (hv : -128 ≤ v ∧ v < 128) (kk : Re L xs mi (pc + 1) l st (HP ly F G (up2 A a z.toNat v) B) Q) : Re L xs mi pc l (V v :: V z :: .ref a :: st) (HP ly F G A B) Q := by
  refine re_nx hi ?_ kk
  unfold a_st
  dsimp only
  rw [nar_b hv.1 hv.2, sv_ok hl (by decide) h0 h1 hn]
  rfl
theorem r_zast {a n : Nat} {z v : Int} {r : AR} (hi : a_ins mi pc = some (.bastore, r)) (hl : ly[a]? = some (.inr (.boolean, n))) (hn : n < 2147483648) (h0 : 0 ≤ z) (h1 : z < n) (hv : v = 0 ∨ v = 1) (kk : Re L xs mi (pc + 1) l st (HP ly F G (up2 A a z.toNat v) B) Q) : Re L xs mi pc l (V v :: V z :: .ref a :: st) (HP ly F G A B) Q := by
  refine re_nx hi ?_ kk
  unfold a_st
  dsimp only
  rw [sv_no hl (by decide) (by decide), nar_z hv, sv_ok hl (by decide) h0 h1 hn]
  rfl
theorem r_last {a n : Nat} {z : Int} {v : Int64} {r : AR} (hi : a_ins mi pc = some (.lastore, r)) (hl : ly[a]? = some (.inr (.long, n))) (hn : n < 2147483648) (h0 : 0 ≤ z) (h1 : z < n) (kk : Re L xs mi (pc + 1) l st (HP ly F G A (up2 B a z.toNat v)) Q) : Re L xs mi pc l (.long v :: V z :: .ref a :: st) (HP ly F G A B) Q := by
  refine re_nx hi ?_ kk
  unfold a_st
  dsimp only
  rw [HP_al hl]
  dsimp only
  rw [if_pos (inb_ok h0 h1 hn), oI_cl h0 (by omega), HP_upB hl]
  rfl
theorem r_alen {a n : Nat} {t : FieldType} {r : AR} (hi : a_ins mi pc = some (.arraylength, r)) (hl : ly[a]? = some (.inr (t, n))) (ht : (a_ti t).isSome = true) (kk : Re L xs mi (pc + 1) l (V n :: st) (HP ly F G A B) Q) : Re L xs mi pc l (.ref a :: st) (HP ly F G A B) Q := by
  refine re_nx hi ?_ kk
  unfold a_st
  dsimp only
  rw [if_pos (show a < (HP ly F G A B).1 from ly_lt hl), HP_cell hl]
  unfold hcl
  dsimp only
  by_cases e : t = .long
  · rw [if_pos e]
    dsimp only
    rw [if_pos (by decide), ← Int32.ofInt_eq_ofNat]
    rfl
  · rw [if_neg e]
    dsimp only
    rw [if_pos ht, ← Int32.ofInt_eq_ofNat]
    rfl
-- the script
theorem r_sld {z : Int} {r : AR} (hi : a_ins mi pc = some (.iaload, r)) (hL : L < 2147483648) (h0 : 0 ≤ z) (h1 : z < L) (kk : Re L xs mi (pc + 1) l (V (xs z.toNat).toInt :: st) h Q) : Re L xs mi pc l (V z :: .float 1000 :: st) h Q := by
  refine re_nx hi ?_ kk
  unfold a_st
  dsimp only
  rw [if_pos ⟨rfl, inb_ok h0 h1 hL⟩, oI_cl h0 (by omega)]
  show some _ = some (Sum.inl (pc + 1, l, .int (Int32.ofInt (xs z.toNat).toInt) :: st, h))
  rw [← oI_of]
theorem r_slen {r : AR} (hi : a_ins mi pc = some (.arraylength, r)) (kk : Re L xs mi (pc + 1) l (V L :: st) h Q) : Re L xs mi pc l (.float 1000 :: st) h Q := by
  refine re_nx hi ?_ kk
  unfold a_st
  dsimp only
  rw [if_pos rfl, ← Int32.ofInt_eq_ofNat]
  rfl
-- returns
theorem r_iret {v : Int32} {r : AR} {t : FieldType} (hi : a_ins mi pc = some (.ireturn, r)) (ht : m_r mi = some t) (hn : narrow t (.int v) = .int v) (k : Q (some (.int v)) h) : Re L xs mi pc l [.int v] h Q := by
  refine re_ret hi ?_ k
  unfold a_st
  dsimp only
  rw [ht]
  dsimp only
  rw [if_pos hn]
theorem r_lret {v : Int64} {r : AR} (hi : a_ins mi pc = some (.lreturn, r)) (ht : m_r mi = some .long) (k : Q (some (.long v)) h) : Re L xs mi pc l [.long v] h Q := by
  refine re_ret hi ?_ k
  unfold a_st
  dsimp only
  rw [if_pos ht]
theorem r_vret {r : AR} (hi : a_ins mi pc = some (.return_, r)) (ht : m_r mi = none) (k : Q none h) : Re L xs mi pc l [] h Q := by
  refine re_ret hi ?_ k
  unfold a_st
  dsimp only
  rw [if_pos ht]
-- calls
theorem r_cS {x mj n : Nat} {as rest : List Value} (hi : a_ins mi pc = some (.invokestatic x, (1, mj, n))) (hn : as.length = n) (hm : a_rm mi mj = true) (h1 : a_sum rest ≤ 8) (h2 : a_sum as.reverse ≤ m_l mj) (k : Re L xs mj 0 (lv_args 0 as.reverse) [] h (fun v h' => Re L xs mi (pc + 3) l (v.toList ++ rest) h' Q)) : Re L xs mi pc l (as ++ rest) h Q := by
  refine re_call hi ?_ k
  unfold a_st
  dsimp only
  rw [if_pos rfl]
  unfold a_call
  have e1 : (as ++ rest).take n = as := by rw [← hn]; exact List.take_left
  have e2 : (as ++ rest).drop n = rest := by rw [← hn]; exact List.drop_left
  rw [if_pos rfl, e1, e2, if_pos ⟨by rw [List.length_append]; omega, hm, h1, h2⟩]
theorem r_cV {x mj n a ci : Nat} {as rest : List Value} (hi : a_ins mi pc = some (.invokevirtual x, (0, mj, n))) (hn : as.length = n) (hm : a_rm mi mj = true) (h1 : a_sum rest ≤ 8) (h2 : a_sum (.ref a :: as.reverse) ≤ m_l mj) (hl : ly[a]? = some (.inl ci)) (hc : a_cn ci = (m_y mj).cls) (k : Re L xs mj 0 (lv_args 0 (.ref a :: as.reverse)) [] (HP ly F G A B) (fun v h' => Re L xs mi (pc + 3) l (v.toList ++ rest) h' Q)) : Re L xs mi pc l (as ++ .ref a :: rest) (HP ly F G A B) Q := by
  refine re_call hi ?_ k
  unfold a_st
  dsimp only
  rw [if_pos rfl]
  unfold a_call
  have e1 : (as ++ .ref a :: rest).take n = as := by rw [← hn]; exact List.take_left
  have e2 : (as ++ .ref a :: rest).drop n = .ref a :: rest := by rw [← hn]; exact List.drop_left
  rw [if_neg (by decide), if_pos rfl, e1, e2]
  dsimp only
  rw [HP_ob hl]
  dsimp only
  rw [if_pos ⟨by rw [List.length_append]; omega, hm, h1, hc, h2⟩]
theorem r_cI {x mj n a k : Nat} {as rest : List Value} (hi : a_ins mi pc = some (.invokespecial x, (k, mj, n))) (hk : k = 2 ∨ k = 3) (hn : as.length = n) (hm : a_rm mi mj = true) (h1 : a_sum rest ≤ 8) (h2 : a_sum (.ref a :: as.reverse) ≤ m_l mj) (kk : Re L xs mj 0 (lv_args 0 (.ref a :: as.reverse)) [] h (fun v h' => Re L xs mi (pc + 3) l (v.toList ++ rest) h' Q)) : Re L xs mi pc l (as ++ .ref a :: rest) h Q := by
  refine re_call hi ?_ kk
  unfold a_st
  dsimp only
  rw [if_pos hk]
  unfold a_call
  have e1 : (as ++ .ref a :: rest).take n = as := by rw [← hn]; exact List.take_left
  have e2 : (as ++ .ref a :: rest).drop n = .ref a :: rest := by rw [← hn]; exact List.drop_left
  rw [if_neg (by omega), if_neg (by omega), e1, e2]
  dsimp only
  rw [if_pos ⟨by rw [List.length_append]; omega, hm, h1, h2⟩]
end RULES
end
