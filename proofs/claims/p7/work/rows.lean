section
-- ===== PART A: goes FIRST, ahead of the names: the tables' words, and 'selects' of the private methods out of them =====
/-- a private method of a class that the tables say can be made, by its rows of tables_1 -/
def lw_okq (q : MethodName × Nat) : Prop := (q.1.cls ≠ "java/lang/invoke/MethodHandle" ∧ q.1.cls ≠ "java/lang/invoke/VarHandle") ∧ Cond.instantiable q.1.cls q.2 ∈ tables_1 ∧ Cond.privateMethod q.1 ∈ tables_1 ∧ Cond.instanceMethod q.1 ∈ tables_1
theorem lw_p0 : lw_okq (⟨"MarkBench", "refresh", "()V"⟩, 12) := ⟨⟨by decide +kernel, by decide +kernel⟩, List.mem_of_getElem? (i := 23) (by decide +kernel), List.mem_of_getElem? (i := 446) (by decide +kernel), List.mem_of_getElem? (i := 447) (by decide +kernel)⟩
theorem lw_p1 : lw_okq (⟨"MarkBench$Choices", "addEntry", "(ILMarkBench$Book;I)V"⟩, 9) := ⟨⟨by decide +kernel, by decide +kernel⟩, List.mem_of_getElem? (i := 233) (by decide +kernel), List.mem_of_getElem? (i := 458) (by decide +kernel), List.mem_of_getElem? (i := 459) (by decide +kernel)⟩
theorem lw_p2 : lw_okq (⟨"MarkBench$Choices", "add", "(I[CIIII)I"⟩, 9) := ⟨⟨by decide +kernel, by decide +kernel⟩, List.mem_of_getElem? (i := 233) (by decide +kernel), List.mem_of_getElem? (i := 473) (by decide +kernel), List.mem_of_getElem? (i := 474) (by decide +kernel)⟩
theorem lw_p3 : lw_okq (⟨"MarkBench$Choices", "fillByWords", "(ILMarkBench$Line;LMarkBench$Book;)V"⟩, 9) := ⟨⟨by decide +kernel, by decide +kernel⟩, List.mem_of_getElem? (i := 233) (by decide +kernel), List.mem_of_getElem? (i := 496) (by decide +kernel), List.mem_of_getElem? (i := 497) (by decide +kernel)⟩
theorem lw_p4 : lw_okq (⟨"MarkBench$Choices", "fillByEnds", "(ILMarkBench$Line;LMarkBench$Book;)V"⟩, 9) := ⟨⟨by decide +kernel, by decide +kernel⟩, List.mem_of_getElem? (i := 233) (by decide +kernel), List.mem_of_getElem? (i := 511) (by decide +kernel), List.mem_of_getElem? (i := 512) (by decide +kernel)⟩
theorem lw_p5 : lw_okq (⟨"MarkBench$Choices", "isNew", "(I[CII)Z"⟩, 9) := ⟨⟨by decide +kernel, by decide +kernel⟩, List.mem_of_getElem? (i := 233) (by decide +kernel), List.mem_of_getElem? (i := 516) (by decide +kernel), List.mem_of_getElem? (i := 517) (by decide +kernel)⟩
theorem lw_p6 : lw_okq (⟨"MarkBench$Choices", "weigh", "(I)V"⟩, 9) := ⟨⟨by decide +kernel, by decide +kernel⟩, List.mem_of_getElem? (i := 233) (by decide +kernel), List.mem_of_getElem? (i := 527) (by decide +kernel), List.mem_of_getElem? (i := 528) (by decide +kernel)⟩
theorem lw_p7 : lw_okq (⟨"MarkBench", "putOnTape", "(I)V"⟩, 12) := ⟨⟨by decide +kernel, by decide +kernel⟩, List.mem_of_getElem? (i := 23) (by decide +kernel), List.mem_of_getElem? (i := 670) (by decide +kernel), List.mem_of_getElem? (i := 671) (by decide +kernel)⟩
theorem lw_p8 : lw_okq (⟨"MarkBench$Tokens", "addForm", "([CII)I"⟩, 5) := ⟨⟨by decide +kernel, by decide +kernel⟩, List.mem_of_getElem? (i := 150) (by decide +kernel), List.mem_of_getElem? (i := 700) (by decide +kernel), List.mem_of_getElem? (i := 701) (by decide +kernel)⟩
theorem lw_p9 : lw_okq (⟨"MarkBench$Tokens", "add", "(IIII)V"⟩, 5) := ⟨⟨by decide +kernel, by decide +kernel⟩, List.mem_of_getElem? (i := 150) (by decide +kernel), List.mem_of_getElem? (i := 705) (by decide +kernel), List.mem_of_getElem? (i := 706) (by decide +kernel)⟩
theorem lw_p10 : lw_okq (⟨"MarkBench$Tokens", "addNumber", "([CII)I"⟩, 5) := ⟨⟨by decide +kernel, by decide +kernel⟩, List.mem_of_getElem? (i := 150) (by decide +kernel), List.mem_of_getElem? (i := 712) (by decide +kernel), List.mem_of_getElem? (i := 713) (by decide +kernel)⟩
theorem lw_p11 : lw_okq (⟨"MarkBench$BookReader", "advance", "()V"⟩, 10) := ⟨⟨by decide +kernel, by decide +kernel⟩, List.mem_of_getElem? (i := 31) (by decide +kernel), List.mem_of_getElem? (i := 716) (by decide +kernel), List.mem_of_getElem? (i := 717) (by decide +kernel)⟩
theorem lw_p12 : lw_okq (⟨"MarkBench$BookReader", "readLine", "()Z"⟩, 10) := ⟨⟨by decide +kernel, by decide +kernel⟩, List.mem_of_getElem? (i := 31) (by decide +kernel), List.mem_of_getElem? (i := 720) (by decide +kernel), List.mem_of_getElem? (i := 721) (by decide +kernel)⟩
theorem lw_p13 : lw_okq (⟨"MarkBench$BookReader", "isWord", "(Ljava/lang/String;)Z"⟩, 10) := ⟨⟨by decide +kernel, by decide +kernel⟩, List.mem_of_getElem? (i := 31) (by decide +kernel), List.mem_of_getElem? (i := 725) (by decide +kernel), List.mem_of_getElem? (i := 726) (by decide +kernel)⟩
theorem lw_p14 : lw_okq (⟨"MarkBench$BookReader", "readWord", "()Z"⟩, 10) := ⟨⟨by decide +kernel, by decide +kernel⟩, List.mem_of_getElem? (i := 31) (by decide +kernel), List.mem_of_getElem? (i := 750) (by decide +kernel), List.mem_of_getElem? (i := 751) (by decide +kernel)⟩
theorem lw_p15 : lw_okq (⟨"MarkBench$BookReader", "misplaced", "()Z"⟩, 10) := ⟨⟨by decide +kernel, by decide +kernel⟩, List.mem_of_getElem? (i := 31) (by decide +kernel), List.mem_of_getElem? (i := 754) (by decide +kernel), List.mem_of_getElem? (i := 755) (by decide +kernel)⟩
def lw_privs_1 : List (MethodName × Nat) := [(⟨"MarkBench", "refresh", "()V"⟩, 12), (⟨"MarkBench$Choices", "addEntry", "(ILMarkBench$Book;I)V"⟩, 9), (⟨"MarkBench$Choices", "add", "(I[CIIII)I"⟩, 9), (⟨"MarkBench$Choices", "fillByWords", "(ILMarkBench$Line;LMarkBench$Book;)V"⟩, 9), (⟨"MarkBench$Choices", "fillByEnds", "(ILMarkBench$Line;LMarkBench$Book;)V"⟩, 9), (⟨"MarkBench$Choices", "isNew", "(I[CII)Z"⟩, 9), (⟨"MarkBench$Choices", "weigh", "(I)V"⟩, 9), (⟨"MarkBench", "putOnTape", "(I)V"⟩, 12), (⟨"MarkBench$Tokens", "addForm", "([CII)I"⟩, 5), (⟨"MarkBench$Tokens", "add", "(IIII)V"⟩, 5), (⟨"MarkBench$Tokens", "addNumber", "([CII)I"⟩, 5), (⟨"MarkBench$BookReader", "advance", "()V"⟩, 10), (⟨"MarkBench$BookReader", "readLine", "()Z"⟩, 10), (⟨"MarkBench$BookReader", "isWord", "(Ljava/lang/String;)Z"⟩, 10), (⟨"MarkBench$BookReader", "readWord", "()Z"⟩, 10), (⟨"MarkBench$BookReader", "misplaced", "()Z"⟩, 10)]
theorem lw_r1 : ∀ q ∈ lw_privs_1, lw_okq q := List.forall_mem_cons.mpr ⟨lw_p0, List.forall_mem_cons.mpr ⟨lw_p1, List.forall_mem_cons.mpr ⟨lw_p2, List.forall_mem_cons.mpr ⟨lw_p3, List.forall_mem_cons.mpr ⟨lw_p4, List.forall_mem_cons.mpr ⟨lw_p5, List.forall_mem_cons.mpr ⟨lw_p6, List.forall_mem_cons.mpr ⟨lw_p7, List.forall_mem_cons.mpr ⟨lw_p8, List.forall_mem_cons.mpr ⟨lw_p9, List.forall_mem_cons.mpr ⟨lw_p10, List.forall_mem_cons.mpr ⟨lw_p11, List.forall_mem_cons.mpr ⟨lw_p12, List.forall_mem_cons.mpr ⟨lw_p13, List.forall_mem_cons.mpr ⟨lw_p14, List.forall_mem_cons.mpr ⟨lw_p15, fun _ h => absurd h List.not_mem_nil⟩⟩⟩⟩⟩⟩⟩⟩⟩⟩⟩⟩⟩⟩⟩⟩
theorem lw_p16 : lw_okq (⟨"MarkBench$BookReader", "takeForm", "()Z"⟩, 10) := ⟨⟨by decide +kernel, by decide +kernel⟩, List.mem_of_getElem? (i := 31) (by decide +kernel), List.mem_of_getElem? (i := 758) (by decide +kernel), List.mem_of_getElem? (i := 759) (by decide +kernel)⟩
theorem lw_p17 : lw_okq (⟨"MarkBench$BookReader", "stands", "(I)Z"⟩, 10) := ⟨⟨by decide +kernel, by decide +kernel⟩, List.mem_of_getElem? (i := 31) (by decide +kernel), List.mem_of_getElem? (i := 762) (by decide +kernel), List.mem_of_getElem? (i := 763) (by decide +kernel)⟩
theorem lw_p18 : lw_okq (⟨"MarkBench$BookReader", "takeNumber", "(I)Z"⟩, 10) := ⟨⟨by decide +kernel, by decide +kernel⟩, List.mem_of_getElem? (i := 31) (by decide +kernel), List.mem_of_getElem? (i := 766) (by decide +kernel), List.mem_of_getElem? (i := 767) (by decide +kernel)⟩
theorem lw_p19 : lw_okq (⟨"MarkBench$BookReader", "refuse", "(II)Z"⟩, 10) := ⟨⟨by decide +kernel, by decide +kernel⟩, List.mem_of_getElem? (i := 31) (by decide +kernel), List.mem_of_getElem? (i := 770) (by decide +kernel), List.mem_of_getElem? (i := 771) (by decide +kernel)⟩
theorem lw_p20 : lw_okq (⟨"MarkBench$BookReader", "readDays", "(I)Z"⟩, 10) := ⟨⟨by decide +kernel, by decide +kernel⟩, List.mem_of_getElem? (i := 31) (by decide +kernel), List.mem_of_getElem? (i := 779) (by decide +kernel), List.mem_of_getElem? (i := 780) (by decide +kernel)⟩
theorem lw_p21 : lw_okq (⟨"MarkBench$BookReader", "readEnd", "()Z"⟩, 10) := ⟨⟨by decide +kernel, by decide +kernel⟩, List.mem_of_getElem? (i := 31) (by decide +kernel), List.mem_of_getElem? (i := 792) (by decide +kernel), List.mem_of_getElem? (i := 793) (by decide +kernel)⟩
theorem lw_p22 : lw_okq (⟨"MarkBench$BookReader", "takeSign", "()Z"⟩, 10) := ⟨⟨by decide +kernel, by decide +kernel⟩, List.mem_of_getElem? (i := 31) (by decide +kernel), List.mem_of_getElem? (i := 797) (by decide +kernel), List.mem_of_getElem? (i := 798) (by decide +kernel)⟩
theorem lw_p23 : lw_okq (⟨"MarkBench$BookReader", "readName", "()Z"⟩, 10) := ⟨⟨by decide +kernel, by decide +kernel⟩, List.mem_of_getElem? (i := 31) (by decide +kernel), List.mem_of_getElem? (i := 802) (by decide +kernel), List.mem_of_getElem? (i := 803) (by decide +kernel)⟩
theorem lw_p24 : lw_okq (⟨"MarkBench$BookReader", "readPair", "(Z)Z"⟩, 10) := ⟨⟨by decide +kernel, by decide +kernel⟩, List.mem_of_getElem? (i := 31) (by decide +kernel), List.mem_of_getElem? (i := 808) (by decide +kernel), List.mem_of_getElem? (i := 809) (by decide +kernel)⟩
theorem lw_p25 : lw_okq (⟨"MarkBench$BookReader", "readBare", "()Z"⟩, 10) := ⟨⟨by decide +kernel, by decide +kernel⟩, List.mem_of_getElem? (i := 31) (by decide +kernel), List.mem_of_getElem? (i := 819) (by decide +kernel), List.mem_of_getElem? (i := 820) (by decide +kernel)⟩
theorem lw_p26 : lw_okq (⟨"MarkBench$Line", "begin", "(IZ)V"⟩, 7) := ⟨⟨by decide +kernel, by decide +kernel⟩, List.mem_of_getElem? (i := 408) (by decide +kernel), List.mem_of_getElem? (i := 842) (by decide +kernel), List.mem_of_getElem? (i := 843) (by decide +kernel)⟩
theorem lw_p27 : lw_okq (⟨"MarkBench$Sheet", "workOut", "()V"⟩, 12) := ⟨⟨by decide +kernel, by decide +kernel⟩, List.mem_of_getElem? (i := 289) (by decide +kernel), List.mem_of_getElem? (i := 880) (by decide +kernel), List.mem_of_getElem? (i := 881) (by decide +kernel)⟩
theorem lw_p28 : lw_okq (⟨"MarkBench$Walk", "bound", "(I)V"⟩, 12) := ⟨⟨by decide +kernel, by decide +kernel⟩, List.mem_of_getElem? (i := 295) (by decide +kernel), List.mem_of_getElem? (i := 888) (by decide +kernel), List.mem_of_getElem? (i := 889) (by decide +kernel)⟩
theorem lw_p29 : lw_okq (⟨"MarkBench$Walk", "leastGain", "(I)I"⟩, 12) := ⟨⟨by decide +kernel, by decide +kernel⟩, List.mem_of_getElem? (i := 295) (by decide +kernel), List.mem_of_getElem? (i := 892) (by decide +kernel), List.mem_of_getElem? (i := 893) (by decide +kernel)⟩
theorem lw_p30 : lw_okq (⟨"MarkBench$Walk", "mostGain", "(I)I"⟩, 12) := ⟨⟨by decide +kernel, by decide +kernel⟩, List.mem_of_getElem? (i := 295) (by decide +kernel), List.mem_of_getElem? (i := 897) (by decide +kernel), List.mem_of_getElem? (i := 898) (by decide +kernel)⟩
theorem lw_p31 : lw_okq (⟨"MarkBench$Walk", "walkBack", "()V"⟩, 12) := ⟨⟨by decide +kernel, by decide +kernel⟩, List.mem_of_getElem? (i := 295) (by decide +kernel), List.mem_of_getElem? (i := 913) (by decide +kernel), List.mem_of_getElem? (i := 914) (by decide +kernel)⟩
def lw_privs_2 : List (MethodName × Nat) := [(⟨"MarkBench$BookReader", "takeForm", "()Z"⟩, 10), (⟨"MarkBench$BookReader", "stands", "(I)Z"⟩, 10), (⟨"MarkBench$BookReader", "takeNumber", "(I)Z"⟩, 10), (⟨"MarkBench$BookReader", "refuse", "(II)Z"⟩, 10), (⟨"MarkBench$BookReader", "readDays", "(I)Z"⟩, 10), (⟨"MarkBench$BookReader", "readEnd", "()Z"⟩, 10), (⟨"MarkBench$BookReader", "takeSign", "()Z"⟩, 10), (⟨"MarkBench$BookReader", "readName", "()Z"⟩, 10), (⟨"MarkBench$BookReader", "readPair", "(Z)Z"⟩, 10), (⟨"MarkBench$BookReader", "readBare", "()Z"⟩, 10), (⟨"MarkBench$Line", "begin", "(IZ)V"⟩, 7), (⟨"MarkBench$Sheet", "workOut", "()V"⟩, 12), (⟨"MarkBench$Walk", "bound", "(I)V"⟩, 12), (⟨"MarkBench$Walk", "leastGain", "(I)I"⟩, 12), (⟨"MarkBench$Walk", "mostGain", "(I)I"⟩, 12), (⟨"MarkBench$Walk", "walkBack", "()V"⟩, 12)]
theorem lw_r2 : ∀ q ∈ lw_privs_2, lw_okq q := List.forall_mem_cons.mpr ⟨lw_p16, List.forall_mem_cons.mpr ⟨lw_p17, List.forall_mem_cons.mpr ⟨lw_p18, List.forall_mem_cons.mpr ⟨lw_p19, List.forall_mem_cons.mpr ⟨lw_p20, List.forall_mem_cons.mpr ⟨lw_p21, List.forall_mem_cons.mpr ⟨lw_p22, List.forall_mem_cons.mpr ⟨lw_p23, List.forall_mem_cons.mpr ⟨lw_p24, List.forall_mem_cons.mpr ⟨lw_p25, List.forall_mem_cons.mpr ⟨lw_p26, List.forall_mem_cons.mpr ⟨lw_p27, List.forall_mem_cons.mpr ⟨lw_p28, List.forall_mem_cons.mpr ⟨lw_p29, List.forall_mem_cons.mpr ⟨lw_p30, List.forall_mem_cons.mpr ⟨lw_p31, fun _ h => absurd h List.not_mem_nil⟩⟩⟩⟩⟩⟩⟩⟩⟩⟩⟩⟩⟩⟩⟩⟩
theorem lw_p32 : lw_okq (⟨"MarkBench$Walk", "fillRest", "(II)V"⟩, 12) := ⟨⟨by decide +kernel, by decide +kernel⟩, List.mem_of_getElem? (i := 295) (by decide +kernel), List.mem_of_getElem? (i := 921) (by decide +kernel), List.mem_of_getElem? (i := 922) (by decide +kernel)⟩
theorem lw_p33 : lw_okq (⟨"MarkBench$Walk", "stateOf", "(II)I"⟩, 12) := ⟨⟨by decide +kernel, by decide +kernel⟩, List.mem_of_getElem? (i := 295) (by decide +kernel), List.mem_of_getElem? (i := 925) (by decide +kernel), List.mem_of_getElem? (i := 926) (by decide +kernel)⟩
theorem lw_p34 : lw_okq (⟨"MarkBench$Walk", "firstSlot", "(I)I"⟩, 12) := ⟨⟨by decide +kernel, by decide +kernel⟩, List.mem_of_getElem? (i := 295) (by decide +kernel), List.mem_of_getElem? (i := 929) (by decide +kernel), List.mem_of_getElem? (i := 930) (by decide +kernel)⟩
theorem lw_p35 : lw_okq (⟨"MarkBench$Walk", "lastSlot", "(I)I"⟩, 12) := ⟨⟨by decide +kernel, by decide +kernel⟩, List.mem_of_getElem? (i := 295) (by decide +kernel), List.mem_of_getElem? (i := 933) (by decide +kernel), List.mem_of_getElem? (i := 934) (by decide +kernel)⟩
theorem lw_p36 : lw_okq (⟨"MarkBench$Walk", "walkOn", "([II)V"⟩, 12) := ⟨⟨by decide +kernel, by decide +kernel⟩, List.mem_of_getElem? (i := 295) (by decide +kernel), List.mem_of_getElem? (i := 937) (by decide +kernel), List.mem_of_getElem? (i := 938) (by decide +kernel)⟩
theorem lw_p37 : lw_okq (⟨"MarkBench$Walk", "enter", "(I)V"⟩, 12) := ⟨⟨by decide +kernel, by decide +kernel⟩, List.mem_of_getElem? (i := 295) (by decide +kernel), List.mem_of_getElem? (i := 941) (by decide +kernel), List.mem_of_getElem? (i := 942) (by decide +kernel)⟩
theorem lw_p38 : lw_okq (⟨"MarkBench$Walk", "enterFrom", "(III)V"⟩, 12) := ⟨⟨by decide +kernel, by decide +kernel⟩, List.mem_of_getElem? (i := 295) (by decide +kernel), List.mem_of_getElem? (i := 945) (by decide +kernel), List.mem_of_getElem? (i := 946) (by decide +kernel)⟩
theorem lw_p39 : lw_okq (⟨"MarkBench$Walk", "pass", "(II)I"⟩, 12) := ⟨⟨by decide +kernel, by decide +kernel⟩, List.mem_of_getElem? (i := 295) (by decide +kernel), List.mem_of_getElem? (i := 950) (by decide +kernel), List.mem_of_getElem? (i := 951) (by decide +kernel)⟩
theorem lw_p40 : lw_okq (⟨"MarkBench$Tally", "clear", "([JI)V"⟩, 5) := ⟨⟨by decide +kernel, by decide +kernel⟩, List.mem_of_getElem? (i := 343) (by decide +kernel), List.mem_of_getElem? (i := 997) (by decide +kernel), List.mem_of_getElem? (i := 998) (by decide +kernel)⟩
theorem lw_p41 : lw_okq (⟨"MarkBench$Tally", "rowOf", "(III)I"⟩, 5) := ⟨⟨by decide +kernel, by decide +kernel⟩, List.mem_of_getElem? (i := 343) (by decide +kernel), List.mem_of_getElem? (i := 1002) (by decide +kernel), List.mem_of_getElem? (i := 1003) (by decide +kernel)⟩
theorem lw_p42 : lw_okq (⟨"MarkBench$Tally", "begin", "(I)V"⟩, 5) := ⟨⟨by decide +kernel, by decide +kernel⟩, List.mem_of_getElem? (i := 343) (by decide +kernel), List.mem_of_getElem? (i := 1009) (by decide +kernel), List.mem_of_getElem? (i := 1010) (by decide +kernel)⟩
theorem lw_p43 : lw_okq (⟨"MarkBench$Tally", "stepTo", "(I)V"⟩, 5) := ⟨⟨by decide +kernel, by decide +kernel⟩, List.mem_of_getElem? (i := 343) (by decide +kernel), List.mem_of_getElem? (i := 1014) (by decide +kernel), List.mem_of_getElem? (i := 1015) (by decide +kernel)⟩
theorem lw_p44 : lw_okq (⟨"MarkBench$Tally", "leastLoss", "(I)I"⟩, 5) := ⟨⟨by decide +kernel, by decide +kernel⟩, List.mem_of_getElem? (i := 343) (by decide +kernel), List.mem_of_getElem? (i := 1018) (by decide +kernel), List.mem_of_getElem? (i := 1019) (by decide +kernel)⟩
theorem lw_p45 : lw_okq (⟨"MarkBench$Tally", "spread", "(IIIII)V"⟩, 5) := ⟨⟨by decide +kernel, by decide +kernel⟩, List.mem_of_getElem? (i := 343) (by decide +kernel), List.mem_of_getElem? (i := 1022) (by decide +kernel), List.mem_of_getElem? (i := 1023) (by decide +kernel)⟩
theorem lw_p46 : lw_okq (⟨"MarkBench$Tally", "sum", "()V"⟩, 5) := ⟨⟨by decide +kernel, by decide +kernel⟩, List.mem_of_getElem? (i := 343) (by decide +kernel), List.mem_of_getElem? (i := 1026) (by decide +kernel), List.mem_of_getElem? (i := 1027) (by decide +kernel)⟩
theorem lw_p47 : lw_okq (⟨"MarkBench$Sheet", "isSureBy", "([IIII)Z"⟩, 12) := ⟨⟨by decide +kernel, by decide +kernel⟩, List.mem_of_getElem? (i := 289) (by decide +kernel), List.mem_of_getElem? (i := 1038) (by decide +kernel), List.mem_of_getElem? (i := 1039) (by decide +kernel)⟩
def lw_privs_3 : List (MethodName × Nat) := [(⟨"MarkBench$Walk", "fillRest", "(II)V"⟩, 12), (⟨"MarkBench$Walk", "stateOf", "(II)I"⟩, 12), (⟨"MarkBench$Walk", "firstSlot", "(I)I"⟩, 12), (⟨"MarkBench$Walk", "lastSlot", "(I)I"⟩, 12), (⟨"MarkBench$Walk", "walkOn", "([II)V"⟩, 12), (⟨"MarkBench$Walk", "enter", "(I)V"⟩, 12), (⟨"MarkBench$Walk", "enterFrom", "(III)V"⟩, 12), (⟨"MarkBench$Walk", "pass", "(II)I"⟩, 12), (⟨"MarkBench$Tally", "clear", "([JI)V"⟩, 5), (⟨"MarkBench$Tally", "rowOf", "(III)I"⟩, 5), (⟨"MarkBench$Tally", "begin", "(I)V"⟩, 5), (⟨"MarkBench$Tally", "stepTo", "(I)V"⟩, 5), (⟨"MarkBench$Tally", "leastLoss", "(I)I"⟩, 5), (⟨"MarkBench$Tally", "spread", "(IIIII)V"⟩, 5), (⟨"MarkBench$Tally", "sum", "()V"⟩, 5), (⟨"MarkBench$Sheet", "isSureBy", "([IIII)Z"⟩, 12)]
theorem lw_r3 : ∀ q ∈ lw_privs_3, lw_okq q := List.forall_mem_cons.mpr ⟨lw_p32, List.forall_mem_cons.mpr ⟨lw_p33, List.forall_mem_cons.mpr ⟨lw_p34, List.forall_mem_cons.mpr ⟨lw_p35, List.forall_mem_cons.mpr ⟨lw_p36, List.forall_mem_cons.mpr ⟨lw_p37, List.forall_mem_cons.mpr ⟨lw_p38, List.forall_mem_cons.mpr ⟨lw_p39, List.forall_mem_cons.mpr ⟨lw_p40, List.forall_mem_cons.mpr ⟨lw_p41, List.forall_mem_cons.mpr ⟨lw_p42, List.forall_mem_cons.mpr ⟨lw_p43, List.forall_mem_cons.mpr ⟨lw_p44, List.forall_mem_cons.mpr ⟨lw_p45, List.forall_mem_cons.mpr ⟨lw_p46, List.forall_mem_cons.mpr ⟨lw_p47, fun _ h => absurd h List.not_mem_nil⟩⟩⟩⟩⟩⟩⟩⟩⟩⟩⟩⟩⟩⟩⟩⟩
theorem lw_p48 : lw_okq (⟨"MarkBench$Sheet", "nearFrom", "([IIII)I"⟩, 12) := ⟨⟨by decide +kernel, by decide +kernel⟩, List.mem_of_getElem? (i := 289) (by decide +kernel), List.mem_of_getElem? (i := 1042) (by decide +kernel), List.mem_of_getElem? (i := 1043) (by decide +kernel)⟩
theorem lw_p49 : lw_okq (⟨"MarkBench$Sheet", "sureIfRead", "(II)I"⟩, 12) := ⟨⟨by decide +kernel, by decide +kernel⟩, List.mem_of_getElem? (i := 289) (by decide +kernel), List.mem_of_getElem? (i := 1087) (by decide +kernel), List.mem_of_getElem? (i := 1088) (by decide +kernel)⟩
theorem lw_p50 : lw_okq (⟨"MarkBenchModel", "takeTape", "()V"⟩, 67) := ⟨⟨by decide +kernel, by decide +kernel⟩, List.mem_of_getElem? (i := 1099) (by decide +kernel), List.mem_of_getElem? (i := 1312) (by decide +kernel), List.mem_of_getElem? (i := 1313) (by decide +kernel)⟩
theorem lw_p51 : lw_okq (⟨"MarkBenchModel", "next", "()V"⟩, 67) := ⟨⟨by decide +kernel, by decide +kernel⟩, List.mem_of_getElem? (i := 1099) (by decide +kernel), List.mem_of_getElem? (i := 1316) (by decide +kernel), List.mem_of_getElem? (i := 1317) (by decide +kernel)⟩
theorem lw_p52 : lw_okq (⟨"MarkBenchModel", "sign", "(I)I"⟩, 67) := ⟨⟨by decide +kernel, by decide +kernel⟩, List.mem_of_getElem? (i := 1099) (by decide +kernel), List.mem_of_getElem? (i := 1320) (by decide +kernel), List.mem_of_getElem? (i := 1321) (by decide +kernel)⟩
theorem lw_p53 : lw_okq (⟨"MarkBenchModel", "isGood", "()Z"⟩, 67) := ⟨⟨by decide +kernel, by decide +kernel⟩, List.mem_of_getElem? (i := 1099) (by decide +kernel), List.mem_of_getElem? (i := 1333) (by decide +kernel), List.mem_of_getElem? (i := 1334) (by decide +kernel)⟩
theorem lw_p54 : lw_okq (⟨"MarkBenchModel", "readLine", "()V"⟩, 67) := ⟨⟨by decide +kernel, by decide +kernel⟩, List.mem_of_getElem? (i := 1099) (by decide +kernel), List.mem_of_getElem? (i := 1337) (by decide +kernel), List.mem_of_getElem? (i := 1338) (by decide +kernel)⟩
theorem lw_p55 : lw_okq (⟨"MarkBenchModel", "isWord", "(J)Z"⟩, 67) := ⟨⟨by decide +kernel, by decide +kernel⟩, List.mem_of_getElem? (i := 1099) (by decide +kernel), List.mem_of_getElem? (i := 1342) (by decide +kernel), List.mem_of_getElem? (i := 1343) (by decide +kernel)⟩
theorem lw_p56 : lw_okq (⟨"MarkBenchModel", "wrong", "()V"⟩, 67) := ⟨⟨by decide +kernel, by decide +kernel⟩, List.mem_of_getElem? (i := 1099) (by decide +kernel), List.mem_of_getElem? (i := 1351) (by decide +kernel), List.mem_of_getElem? (i := 1352) (by decide +kernel)⟩
theorem lw_p57 : lw_okq (⟨"MarkBenchModel", "fails", "(II)V"⟩, 67) := ⟨⟨by decide +kernel, by decide +kernel⟩, List.mem_of_getElem? (i := 1099) (by decide +kernel), List.mem_of_getElem? (i := 1355) (by decide +kernel), List.mem_of_getElem? (i := 1356) (by decide +kernel)⟩
theorem lw_p58 : lw_okq (⟨"MarkBenchModel", "readWord", "()V"⟩, 67) := ⟨⟨by decide +kernel, by decide +kernel⟩, List.mem_of_getElem? (i := 1099) (by decide +kernel), List.mem_of_getElem? (i := 1359) (by decide +kernel), List.mem_of_getElem? (i := 1360) (by decide +kernel)⟩
theorem lw_p59 : lw_okq (⟨"MarkBenchModel", "form", "()V"⟩, 67) := ⟨⟨by decide +kernel, by decide +kernel⟩, List.mem_of_getElem? (i := 1099) (by decide +kernel), List.mem_of_getElem? (i := 1363) (by decide +kernel), List.mem_of_getElem? (i := 1364) (by decide +kernel)⟩
theorem lw_p60 : lw_okq (⟨"MarkBenchModel", "take", "([BI)I"⟩, 67) := ⟨⟨by decide +kernel, by decide +kernel⟩, List.mem_of_getElem? (i := 1099) (by decide +kernel), List.mem_of_getElem? (i := 1367) (by decide +kernel), List.mem_of_getElem? (i := 1368) (by decide +kernel)⟩
theorem lw_p61 : lw_okq (⟨"MarkBenchModel", "numeral", "(I)I"⟩, 67) := ⟨⟨by decide +kernel, by decide +kernel⟩, List.mem_of_getElem? (i := 1099) (by decide +kernel), List.mem_of_getElem? (i := 1371) (by decide +kernel), List.mem_of_getElem? (i := 1372) (by decide +kernel)⟩
theorem lw_p62 : lw_okq (⟨"MarkBenchModel", "readEnd", "()V"⟩, 67) := ⟨⟨by decide +kernel, by decide +kernel⟩, List.mem_of_getElem? (i := 1099) (by decide +kernel), List.mem_of_getElem? (i := 1384) (by decide +kernel), List.mem_of_getElem? (i := 1385) (by decide +kernel)⟩
theorem lw_p63 : lw_okq (⟨"MarkBenchModel", "readName", "()V"⟩, 67) := ⟨⟨by decide +kernel, by decide +kernel⟩, List.mem_of_getElem? (i := 1099) (by decide +kernel), List.mem_of_getElem? (i := 1388) (by decide +kernel), List.mem_of_getElem? (i := 1389) (by decide +kernel)⟩
def lw_privs_4 : List (MethodName × Nat) := [(⟨"MarkBench$Sheet", "nearFrom", "([IIII)I"⟩, 12), (⟨"MarkBench$Sheet", "sureIfRead", "(II)I"⟩, 12), (⟨"MarkBenchModel", "takeTape", "()V"⟩, 67), (⟨"MarkBenchModel", "next", "()V"⟩, 67), (⟨"MarkBenchModel", "sign", "(I)I"⟩, 67), (⟨"MarkBenchModel", "isGood", "()Z"⟩, 67), (⟨"MarkBenchModel", "readLine", "()V"⟩, 67), (⟨"MarkBenchModel", "isWord", "(J)Z"⟩, 67), (⟨"MarkBenchModel", "wrong", "()V"⟩, 67), (⟨"MarkBenchModel", "fails", "(II)V"⟩, 67), (⟨"MarkBenchModel", "readWord", "()V"⟩, 67), (⟨"MarkBenchModel", "form", "()V"⟩, 67), (⟨"MarkBenchModel", "take", "([BI)I"⟩, 67), (⟨"MarkBenchModel", "numeral", "(I)I"⟩, 67), (⟨"MarkBenchModel", "readEnd", "()V"⟩, 67), (⟨"MarkBenchModel", "readName", "()V"⟩, 67)]
theorem lw_r4 : ∀ q ∈ lw_privs_4, lw_okq q := List.forall_mem_cons.mpr ⟨lw_p48, List.forall_mem_cons.mpr ⟨lw_p49, List.forall_mem_cons.mpr ⟨lw_p50, List.forall_mem_cons.mpr ⟨lw_p51, List.forall_mem_cons.mpr ⟨lw_p52, List.forall_mem_cons.mpr ⟨lw_p53, List.forall_mem_cons.mpr ⟨lw_p54, List.forall_mem_cons.mpr ⟨lw_p55, List.forall_mem_cons.mpr ⟨lw_p56, List.forall_mem_cons.mpr ⟨lw_p57, List.forall_mem_cons.mpr ⟨lw_p58, List.forall_mem_cons.mpr ⟨lw_p59, List.forall_mem_cons.mpr ⟨lw_p60, List.forall_mem_cons.mpr ⟨lw_p61, List.forall_mem_cons.mpr ⟨lw_p62, List.forall_mem_cons.mpr ⟨lw_p63, fun _ h => absurd h List.not_mem_nil⟩⟩⟩⟩⟩⟩⟩⟩⟩⟩⟩⟩⟩⟩⟩⟩
theorem lw_p64 : lw_okq (⟨"MarkBenchModel", "readPair", "(Z)V"⟩, 67) := ⟨⟨by decide +kernel, by decide +kernel⟩, List.mem_of_getElem? (i := 1099) (by decide +kernel), List.mem_of_getElem? (i := 1392) (by decide +kernel), List.mem_of_getElem? (i := 1393) (by decide +kernel)⟩
theorem lw_p65 : lw_okq (⟨"MarkBenchModel", "readBare", "()V"⟩, 67) := ⟨⟨by decide +kernel, by decide +kernel⟩, List.mem_of_getElem? (i := 1099) (by decide +kernel), List.mem_of_getElem? (i := 1396) (by decide +kernel), List.mem_of_getElem? (i := 1397) (by decide +kernel)⟩
theorem lw_p66 : lw_okq (⟨"MarkBenchModel", "readWords", "()I"⟩, 67) := ⟨⟨by decide +kernel, by decide +kernel⟩, List.mem_of_getElem? (i := 1099) (by decide +kernel), List.mem_of_getElem? (i := 1408) (by decide +kernel), List.mem_of_getElem? (i := 1409) (by decide +kernel)⟩
theorem lw_p67 : lw_okq (⟨"MarkBenchModel", "isPlace", "(I)Z"⟩, 67) := ⟨⟨by decide +kernel, by decide +kernel⟩, List.mem_of_getElem? (i := 1099) (by decide +kernel), List.mem_of_getElem? (i := 1420) (by decide +kernel), List.mem_of_getElem? (i := 1421) (by decide +kernel)⟩
theorem lw_p68 : lw_okq (⟨"MarkBenchModel", "know", "()V"⟩, 67) := ⟨⟨by decide +kernel, by decide +kernel⟩, List.mem_of_getElem? (i := 1099) (by decide +kernel), List.mem_of_getElem? (i := 1424) (by decide +kernel), List.mem_of_getElem? (i := 1425) (by decide +kernel)⟩
theorem lw_p69 : lw_okq (⟨"MarkBenchModel", "readingsOf", "(I)V"⟩, 67) := ⟨⟨by decide +kernel, by decide +kernel⟩, List.mem_of_getElem? (i := 1099) (by decide +kernel), List.mem_of_getElem? (i := 1428) (by decide +kernel), List.mem_of_getElem? (i := 1429) (by decide +kernel)⟩
theorem lw_p70 : lw_okq (⟨"MarkBenchModel", "handOf", "(I)I"⟩, 67) := ⟨⟨by decide +kernel, by decide +kernel⟩, List.mem_of_getElem? (i := 1099) (by decide +kernel), List.mem_of_getElem? (i := 1432) (by decide +kernel), List.mem_of_getElem? (i := 1433) (by decide +kernel)⟩
theorem lw_p71 : lw_okq (⟨"MarkBenchModel", "addWord", "(II)V"⟩, 67) := ⟨⟨by decide +kernel, by decide +kernel⟩, List.mem_of_getElem? (i := 1099) (by decide +kernel), List.mem_of_getElem? (i := 1436) (by decide +kernel), List.mem_of_getElem? (i := 1437) (by decide +kernel)⟩
theorem lw_p72 : lw_okq (⟨"MarkBenchModel", "costOf", "(I)I"⟩, 67) := ⟨⟨by decide +kernel, by decide +kernel⟩, List.mem_of_getElem? (i := 1099) (by decide +kernel), List.mem_of_getElem? (i := 1440) (by decide +kernel), List.mem_of_getElem? (i := 1441) (by decide +kernel)⟩
theorem lw_p73 : lw_okq (⟨"MarkBenchModel", "add", "(IIII)I"⟩, 67) := ⟨⟨by decide +kernel, by decide +kernel⟩, List.mem_of_getElem? (i := 1099) (by decide +kernel), List.mem_of_getElem? (i := 1444) (by decide +kernel), List.mem_of_getElem? (i := 1445) (by decide +kernel)⟩
theorem lw_p74 : lw_okq (⟨"MarkBenchModel", "countMarks", "(II)V"⟩, 67) := ⟨⟨by decide +kernel, by decide +kernel⟩, List.mem_of_getElem? (i := 1099) (by decide +kernel), List.mem_of_getElem? (i := 1448) (by decide +kernel), List.mem_of_getElem? (i := 1449) (by decide +kernel)⟩
theorem lw_p75 : lw_okq (⟨"MarkBenchModel", "isName", "(I)Z"⟩, 67) := ⟨⟨by decide +kernel, by decide +kernel⟩, List.mem_of_getElem? (i := 1099) (by decide +kernel), List.mem_of_getElem? (i := 1455) (by decide +kernel), List.mem_of_getElem? (i := 1456) (by decide +kernel)⟩
theorem lw_p76 : lw_okq (⟨"MarkBenchModel", "letterAt", "(II)I"⟩, 67) := ⟨⟨by decide +kernel, by decide +kernel⟩, List.mem_of_getElem? (i := 1099) (by decide +kernel), List.mem_of_getElem? (i := 1459) (by decide +kernel), List.mem_of_getElem? (i := 1460) (by decide +kernel)⟩
theorem lw_p77 : lw_okq (⟨"MarkBenchModel", "fits", "([BIIII)Z"⟩, 67) := ⟨⟨by decide +kernel, by decide +kernel⟩, List.mem_of_getElem? (i := 1099) (by decide +kernel), List.mem_of_getElem? (i := 1463) (by decide +kernel), List.mem_of_getElem? (i := 1464) (by decide +kernel)⟩
theorem lw_p78 : lw_okq (⟨"MarkBenchModel", "addEnd", "(II)V"⟩, 67) := ⟨⟨by decide +kernel, by decide +kernel⟩, List.mem_of_getElem? (i := 1099) (by decide +kernel), List.mem_of_getElem? (i := 1467) (by decide +kernel), List.mem_of_getElem? (i := 1468) (by decide +kernel)⟩
theorem lw_p79 : lw_okq (⟨"MarkBenchModel", "addNew", "(II)V"⟩, 67) := ⟨⟨by decide +kernel, by decide +kernel⟩, List.mem_of_getElem? (i := 1099) (by decide +kernel), List.mem_of_getElem? (i := 1471) (by decide +kernel), List.mem_of_getElem? (i := 1472) (by decide +kernel)⟩
def lw_privs_5 : List (MethodName × Nat) := [(⟨"MarkBenchModel", "readPair", "(Z)V"⟩, 67), (⟨"MarkBenchModel", "readBare", "()V"⟩, 67), (⟨"MarkBenchModel", "readWords", "()I"⟩, 67), (⟨"MarkBenchModel", "isPlace", "(I)Z"⟩, 67), (⟨"MarkBenchModel", "know", "()V"⟩, 67), (⟨"MarkBenchModel", "readingsOf", "(I)V"⟩, 67), (⟨"MarkBenchModel", "handOf", "(I)I"⟩, 67), (⟨"MarkBenchModel", "addWord", "(II)V"⟩, 67), (⟨"MarkBenchModel", "costOf", "(I)I"⟩, 67), (⟨"MarkBenchModel", "add", "(IIII)I"⟩, 67), (⟨"MarkBenchModel", "countMarks", "(II)V"⟩, 67), (⟨"MarkBenchModel", "isName", "(I)Z"⟩, 67), (⟨"MarkBenchModel", "letterAt", "(II)I"⟩, 67), (⟨"MarkBenchModel", "fits", "([BIIII)Z"⟩, 67), (⟨"MarkBenchModel", "addEnd", "(II)V"⟩, 67), (⟨"MarkBenchModel", "addNew", "(II)V"⟩, 67)]
theorem lw_r5 : ∀ q ∈ lw_privs_5, lw_okq q := List.forall_mem_cons.mpr ⟨lw_p64, List.forall_mem_cons.mpr ⟨lw_p65, List.forall_mem_cons.mpr ⟨lw_p66, List.forall_mem_cons.mpr ⟨lw_p67, List.forall_mem_cons.mpr ⟨lw_p68, List.forall_mem_cons.mpr ⟨lw_p69, List.forall_mem_cons.mpr ⟨lw_p70, List.forall_mem_cons.mpr ⟨lw_p71, List.forall_mem_cons.mpr ⟨lw_p72, List.forall_mem_cons.mpr ⟨lw_p73, List.forall_mem_cons.mpr ⟨lw_p74, List.forall_mem_cons.mpr ⟨lw_p75, List.forall_mem_cons.mpr ⟨lw_p76, List.forall_mem_cons.mpr ⟨lw_p77, List.forall_mem_cons.mpr ⟨lw_p78, List.forall_mem_cons.mpr ⟨lw_p79, fun _ h => absurd h List.not_mem_nil⟩⟩⟩⟩⟩⟩⟩⟩⟩⟩⟩⟩⟩⟩⟩⟩
theorem lw_p80 : lw_okq (⟨"MarkBenchModel", "vowels", "()I"⟩, 67) := ⟨⟨by decide +kernel, by decide +kernel⟩, List.mem_of_getElem? (i := 1099) (by decide +kernel), List.mem_of_getElem? (i := 1475) (by decide +kernel), List.mem_of_getElem? (i := 1476) (by decide +kernel)⟩
theorem lw_p81 : lw_okq (⟨"MarkBenchModel", "reckon", "()V"⟩, 67) := ⟨⟨by decide +kernel, by decide +kernel⟩, List.mem_of_getElem? (i := 1099) (by decide +kernel), List.mem_of_getElem? (i := 1479) (by decide +kernel), List.mem_of_getElem? (i := 1480) (by decide +kernel)⟩
theorem lw_p82 : lw_okq (⟨"MarkBenchModel", "counts", "(II)Z"⟩, 67) := ⟨⟨by decide +kernel, by decide +kernel⟩, List.mem_of_getElem? (i := 1099) (by decide +kernel), List.mem_of_getElem? (i := 1484) (by decide +kernel), List.mem_of_getElem? (i := 1485) (by decide +kernel)⟩
theorem lw_p83 : lw_okq (⟨"MarkBenchModel", "goAhead", "(II)V"⟩, 67) := ⟨⟨by decide +kernel, by decide +kernel⟩, List.mem_of_getElem? (i := 1099) (by decide +kernel), List.mem_of_getElem? (i := 1488) (by decide +kernel), List.mem_of_getElem? (i := 1489) (by decide +kernel)⟩
theorem lw_p84 : lw_okq (⟨"MarkBenchModel", "comes", "(III)I"⟩, 67) := ⟨⟨by decide +kernel, by decide +kernel⟩, List.mem_of_getElem? (i := 1099) (by decide +kernel), List.mem_of_getElem? (i := 1492) (by decide +kernel), List.mem_of_getElem? (i := 1493) (by decide +kernel)⟩
theorem lw_p85 : lw_okq (⟨"MarkBenchModel", "marksOf", "(I)I"⟩, 67) := ⟨⟨by decide +kernel, by decide +kernel⟩, List.mem_of_getElem? (i := 1099) (by decide +kernel), List.mem_of_getElem? (i := 1496) (by decide +kernel), List.mem_of_getElem? (i := 1497) (by decide +kernel)⟩
theorem lw_p86 : lw_okq (⟨"MarkBenchModel", "pair", "(II)I"⟩, 67) := ⟨⟨by decide +kernel, by decide +kernel⟩, List.mem_of_getElem? (i := 1099) (by decide +kernel), List.mem_of_getElem? (i := 1503) (by decide +kernel), List.mem_of_getElem? (i := 1504) (by decide +kernel)⟩
theorem lw_p87 : lw_okq (⟨"MarkBenchModel", "goBehind", "(II)V"⟩, 67) := ⟨⟨by decide +kernel, by decide +kernel⟩, List.mem_of_getElem? (i := 1099) (by decide +kernel), List.mem_of_getElem? (i := 1507) (by decide +kernel), List.mem_of_getElem? (i := 1508) (by decide +kernel)⟩
theorem lw_p88 : lw_okq (⟨"MarkBenchModel", "goesOn", "(III)I"⟩, 67) := ⟨⟨by decide +kernel, by decide +kernel⟩, List.mem_of_getElem? (i := 1099) (by decide +kernel), List.mem_of_getElem? (i := 1511) (by decide +kernel), List.mem_of_getElem? (i := 1512) (by decide +kernel)⟩
theorem lw_p89 : lw_okq (⟨"MarkBenchModel", "isReading", "(II)Z"⟩, 67) := ⟨⟨by decide +kernel, by decide +kernel⟩, List.mem_of_getElem? (i := 1099) (by decide +kernel), List.mem_of_getElem? (i := 1519) (by decide +kernel), List.mem_of_getElem? (i := 1520) (by decide +kernel)⟩
theorem lw_p90 : lw_okq (⟨"MarkBenchModel", "weight", "(II)I"⟩, 67) := ⟨⟨by decide +kernel, by decide +kernel⟩, List.mem_of_getElem? (i := 1099) (by decide +kernel), List.mem_of_getElem? (i := 1523) (by decide +kernel), List.mem_of_getElem? (i := 1524) (by decide +kernel)⟩
theorem lw_p91 : lw_okq (⟨"MarkBenchModel", "through", "(II)I"⟩, 67) := ⟨⟨by decide +kernel, by decide +kernel⟩, List.mem_of_getElem? (i := 1099) (by decide +kernel), List.mem_of_getElem? (i := 1527) (by decide +kernel), List.mem_of_getElem? (i := 1528) (by decide +kernel)⟩
theorem lw_p92 : lw_okq (⟨"MarkBenchModel", "choose", "()V"⟩, 67) := ⟨⟨by decide +kernel, by decide +kernel⟩, List.mem_of_getElem? (i := 1099) (by decide +kernel), List.mem_of_getElem? (i := 1544) (by decide +kernel), List.mem_of_getElem? (i := 1545) (by decide +kernel)⟩
theorem lw_p93 : lw_okq (⟨"MarkBenchModel", "isBestWith", "(IIII)Z"⟩, 67) := ⟨⟨by decide +kernel, by decide +kernel⟩, List.mem_of_getElem? (i := 1099) (by decide +kernel), List.mem_of_getElem? (i := 1548) (by decide +kernel), List.mem_of_getElem? (i := 1549) (by decide +kernel)⟩
theorem lw_p94 : lw_okq (⟨"MarkBenchModel", "clear", "(I)V"⟩, 67) := ⟨⟨by decide +kernel, by decide +kernel⟩, List.mem_of_getElem? (i := 1099) (by decide +kernel), List.mem_of_getElem? (i := 1557) (by decide +kernel), List.mem_of_getElem? (i := 1558) (by decide +kernel)⟩
theorem lw_p95 : lw_okq (⟨"MarkBenchModel", "begin", "(II)V"⟩, 67) := ⟨⟨by decide +kernel, by decide +kernel⟩, List.mem_of_getElem? (i := 1099) (by decide +kernel), List.mem_of_getElem? (i := 1565) (by decide +kernel), List.mem_of_getElem? (i := 1566) (by decide +kernel)⟩
def lw_privs_6 : List (MethodName × Nat) := [(⟨"MarkBenchModel", "vowels", "()I"⟩, 67), (⟨"MarkBenchModel", "reckon", "()V"⟩, 67), (⟨"MarkBenchModel", "counts", "(II)Z"⟩, 67), (⟨"MarkBenchModel", "goAhead", "(II)V"⟩, 67), (⟨"MarkBenchModel", "comes", "(III)I"⟩, 67), (⟨"MarkBenchModel", "marksOf", "(I)I"⟩, 67), (⟨"MarkBenchModel", "pair", "(II)I"⟩, 67), (⟨"MarkBenchModel", "goBehind", "(II)V"⟩, 67), (⟨"MarkBenchModel", "goesOn", "(III)I"⟩, 67), (⟨"MarkBenchModel", "isReading", "(II)Z"⟩, 67), (⟨"MarkBenchModel", "weight", "(II)I"⟩, 67), (⟨"MarkBenchModel", "through", "(II)I"⟩, 67), (⟨"MarkBenchModel", "choose", "()V"⟩, 67), (⟨"MarkBenchModel", "isBestWith", "(IIII)Z"⟩, 67), (⟨"MarkBenchModel", "clear", "(I)V"⟩, 67), (⟨"MarkBenchModel", "begin", "(II)V"⟩, 67)]
theorem lw_r6 : ∀ q ∈ lw_privs_6, lw_okq q := List.forall_mem_cons.mpr ⟨lw_p80, List.forall_mem_cons.mpr ⟨lw_p81, List.forall_mem_cons.mpr ⟨lw_p82, List.forall_mem_cons.mpr ⟨lw_p83, List.forall_mem_cons.mpr ⟨lw_p84, List.forall_mem_cons.mpr ⟨lw_p85, List.forall_mem_cons.mpr ⟨lw_p86, List.forall_mem_cons.mpr ⟨lw_p87, List.forall_mem_cons.mpr ⟨lw_p88, List.forall_mem_cons.mpr ⟨lw_p89, List.forall_mem_cons.mpr ⟨lw_p90, List.forall_mem_cons.mpr ⟨lw_p91, List.forall_mem_cons.mpr ⟨lw_p92, List.forall_mem_cons.mpr ⟨lw_p93, List.forall_mem_cons.mpr ⟨lw_p94, List.forall_mem_cons.mpr ⟨lw_p95, fun _ h => absurd h List.not_mem_nil⟩⟩⟩⟩⟩⟩⟩⟩⟩⟩⟩⟩⟩⟩⟩⟩
theorem lw_p96 : lw_okq (⟨"MarkBenchModel", "rest", "(III)I"⟩, 67) := ⟨⟨by decide +kernel, by decide +kernel⟩, List.mem_of_getElem? (i := 1099) (by decide +kernel), List.mem_of_getElem? (i := 1569) (by decide +kernel), List.mem_of_getElem? (i := 1570) (by decide +kernel)⟩
theorem lw_p97 : lw_okq (⟨"MarkBenchModel", "hasAny", "(IIII)Z"⟩, 67) := ⟨⟨by decide +kernel, by decide +kernel⟩, List.mem_of_getElem? (i := 1099) (by decide +kernel), List.mem_of_getElem? (i := 1573) (by decide +kernel), List.mem_of_getElem? (i := 1574) (by decide +kernel)⟩
theorem lw_p98 : lw_okq (⟨"MarkBenchModel", "spread", "(IIIII)V"⟩, 67) := ⟨⟨by decide +kernel, by decide +kernel⟩, List.mem_of_getElem? (i := 1099) (by decide +kernel), List.mem_of_getElem? (i := 1577) (by decide +kernel), List.mem_of_getElem? (i := 1578) (by decide +kernel)⟩
theorem lw_p99 : lw_okq (⟨"MarkBenchModel", "isSure", "(II)Z"⟩, 67) := ⟨⟨by decide +kernel, by decide +kernel⟩, List.mem_of_getElem? (i := 1099) (by decide +kernel), List.mem_of_getElem? (i := 1588) (by decide +kernel), List.mem_of_getElem? (i := 1589) (by decide +kernel)⟩
theorem lw_p100 : lw_okq (⟨"MarkBenchModel", "firstNear", "(II)I"⟩, 67) := ⟨⟨by decide +kernel, by decide +kernel⟩, List.mem_of_getElem? (i := 1099) (by decide +kernel), List.mem_of_getElem? (i := 1592) (by decide +kernel), List.mem_of_getElem? (i := 1593) (by decide +kernel)⟩
def lw_privs_7 : List (MethodName × Nat) := [(⟨"MarkBenchModel", "rest", "(III)I"⟩, 67), (⟨"MarkBenchModel", "hasAny", "(IIII)Z"⟩, 67), (⟨"MarkBenchModel", "spread", "(IIIII)V"⟩, 67), (⟨"MarkBenchModel", "isSure", "(II)Z"⟩, 67), (⟨"MarkBenchModel", "firstNear", "(II)I"⟩, 67)]
theorem lw_r7 : ∀ q ∈ lw_privs_7, lw_okq q := List.forall_mem_cons.mpr ⟨lw_p96, List.forall_mem_cons.mpr ⟨lw_p97, List.forall_mem_cons.mpr ⟨lw_p98, List.forall_mem_cons.mpr ⟨lw_p99, List.forall_mem_cons.mpr ⟨lw_p100, fun _ h => absurd h List.not_mem_nil⟩⟩⟩⟩⟩
def lw_privs : List (MethodName × Nat) := lw_privs_1 ++ (lw_privs_2 ++ (lw_privs_3 ++ (lw_privs_4 ++ (lw_privs_5 ++ (lw_privs_6 ++ (lw_privs_7))))))
def lw_tbl : List Cond := k2_sels lw_privs ++ tables_1
theorem lw_privs_ok : ∀ q ∈ lw_privs, lw_okq q := by
  show ∀ q ∈ lw_privs_1 ++ (lw_privs_2 ++ (lw_privs_3 ++ (lw_privs_4 ++ (lw_privs_5 ++ (lw_privs_6 ++ (lw_privs_7)))))), lw_okq q
  exact List.forall_mem_append.mpr ⟨lw_r1, List.forall_mem_append.mpr ⟨lw_r2, List.forall_mem_append.mpr ⟨lw_r3, List.forall_mem_append.mpr ⟨lw_r4, List.forall_mem_append.mpr ⟨lw_r5, List.forall_mem_append.mpr ⟨lw_r6, lw_r7⟩⟩⟩⟩⟩⟩
-- ===== end of PART A; then your names; then what follows =====
end
section
def o_N : List String := ["MarkBenchLaw", "MarkBench", "MarkBench$Book", "MarkBench$BookReader", "MarkBench$Choices", "MarkBench$Forms", "MarkBench$Hands", "MarkBench$Letters", "MarkBench$Line", "MarkBench$Sheet", "MarkBench$Tally", "MarkBench$Tokens", "MarkBench$Walk", "MarkBenchModel", "java/util/Arrays"]
def T_0 : u_T := fun k => match k with
  | 0 => ("MarkBench$Book", "words", "LMarkBench$Forms;", true)
  | 1 => ("MarkBench$Book", "kinds", "[I", true)
  | 2 => ("MarkBench$Book", "costs", "[I", true)
  | 3 => ("MarkBench$Book", "since", "[I", true)
  | 4 => ("MarkBench$Book", "until", "[I", true)
  | 5 => ("MarkBench$Book", "learnt", "[I", true)
  | 6 => ("MarkBench$Book", "ends", "LMarkBench$Forms;", true)
  | 7 => ("MarkBench$Book", "endKinds", "[I", true)
  | 8 => ("MarkBench$Book", "endCosts", "[I", true)
  | 9 => ("MarkBench$Book", "names", "LMarkBench$Forms;", true)
  | 10 => ("MarkBench$Book", "pairCosts", "[I", true)
  | 11 => ("MarkBench$Book", "pairTold", "[Z", true)
  | 12 => ("MarkBench$Book", "pairCount", "I", false)
  | 13 => ("MarkBench$Book", "bareTold", "Z", false)
  | 14 => ("MarkBench$Book", "bareKind", "I", false)
  | _ => ("MarkBench$Book", "bareCost", "I", false)
def ty_0 : Nat → FieldType := fun k => match k with
  | 0 => .object "MarkBench$Forms"
  | 1 => .array .int
  | 2 => .array .int
  | 3 => .array .int
  | 4 => .array .int
  | 5 => .array .int
  | 6 => .object "MarkBench$Forms"
  | 7 => .array .int
  | 8 => .array .int
  | 9 => .object "MarkBench$Forms"
  | 10 => .array .int
  | 11 => .array .boolean
  | 12 => .int
  | 13 => .boolean
  | 14 => .int
  | _ => .int
def T_1 : u_T := fun k => match k with
  | 0 => ("MarkBench$BookReader", "fault", "I", false)
  | 1 => ("MarkBench$BookReader", "faultAt", "I", false)
  | 2 => ("MarkBench$BookReader", "book", "LMarkBench$Book;", false)
  | 3 => ("MarkBench$BookReader", "text", "[C", true)
  | 4 => ("MarkBench$BookReader", "tokens", "LMarkBench$Tokens;", true)
  | 5 => ("MarkBench$BookReader", "next", "I", false)
  | 6 => ("MarkBench$BookReader", "sort", "I", false)
  | 7 => ("MarkBench$BookReader", "at", "I", false)
  | 8 => ("MarkBench$BookReader", "length", "I", false)
  | _ => ("MarkBench$BookReader", "value", "I", false)
def ty_1 : Nat → FieldType := fun k => match k with
  | 0 => .int
  | 1 => .int
  | 2 => .object "MarkBench$Book"
  | 3 => .array .char
  | 4 => .object "MarkBench$Tokens"
  | 5 => .int
  | 6 => .int
  | 7 => .int
  | 8 => .int
  | _ => .int
def T_2 : u_T := fun k => match k with
  | 0 => ("MarkBench$Choices", "counts", "[I", true)
  | 1 => ("MarkBench$Choices", "bareWeights", "[I", true)
  | 2 => ("MarkBench$Choices", "spellings", "LMarkBench$Forms;", true)
  | 3 => ("MarkBench$Choices", "kinds", "[I", true)
  | 4 => ("MarkBench$Choices", "costs", "[I", true)
  | 5 => ("MarkBench$Choices", "gains", "[I", true)
  | 6 => ("MarkBench$Choices", "entries", "[I", true)
  | 7 => ("MarkBench$Choices", "draft", "[C", true)
  | _ => ("MarkBench$Choices", "words", "I", false)
def ty_2 : Nat → FieldType := fun k => match k with
  | 0 => .array .int
  | 1 => .array .int
  | 2 => .object "MarkBench$Forms"
  | 3 => .array .int
  | 4 => .array .int
  | 5 => .array .int
  | 6 => .array .int
  | 7 => .array .char
  | _ => .int
def T_3 : u_T := fun k => match k with
  | 0 => ("MarkBench$Forms", "letters", "[C", true)
  | 1 => ("MarkBench$Forms", "lengths", "[I", true)
  | _ => ("MarkBench$Forms", "count", "I", false)
def ty_3 : Nat → FieldType := fun k => match k with
  | 0 => .array .char
  | 1 => .array .int
  | _ => .int
def T_4 : u_T := fun k => match k with
  | 0 => ("MarkBench$Hands", "words", "[I", true)
  | 1 => ("MarkBench$Hands", "entries", "[I", true)
  | 2 => ("MarkBench$Hands", "taken", "[Z", true)
  | _ => ("MarkBench$Hands", "count", "I", false)
def ty_4 : Nat → FieldType := fun k => match k with
  | 0 => .array .int
  | 1 => .array .int
  | 2 => .array .boolean
  | _ => .int
def T_5 : u_T := fun k => match k with
  | 0 => ("MarkBench$Line", "text", "[C", true)
  | 1 => ("MarkBench$Line", "starts", "[I", true)
  | 2 => ("MarkBench$Line", "lengths", "[I", true)
  | 3 => ("MarkBench$Line", "kept", "[Z", true)
  | 4 => ("MarkBench$Line", "length", "I", false)
  | 5 => ("MarkBench$Line", "words", "I", false)
  | _ => ("MarkBench$Line", "day", "I", false)
def ty_5 : Nat → FieldType := fun k => match k with
  | 0 => .array .char
  | 1 => .array .int
  | 2 => .array .int
  | 3 => .array .boolean
  | 4 => .int
  | 5 => .int
  | _ => .int
def T_6 : u_T := fun k => match k with
  | 0 => ("MarkBench$Sheet", "choices", "LMarkBench$Choices;", true)
  | 1 => ("MarkBench$Sheet", "walk", "LMarkBench$Walk;", true)
  | 2 => ("MarkBench$Sheet", "tally", "LMarkBench$Tally;", true)
  | 3 => ("MarkBench$Sheet", "through", "[I", true)
  | 4 => ("MarkBench$Sheet", "chosen", "[I", true)
  | 5 => ("MarkBench$Sheet", "ifRead", "[I", true)
  | 6 => ("MarkBench$Sheet", "ifReadKnown", "[Z", true)
  | 7 => ("MarkBench$Sheet", "least", "I", false)
  | 8 => ("MarkBench$Sheet", "pairCosts", "[I", false)
  | 9 => ("MarkBench$Sheet", "metre", "I", false)
  | 10 => ("MarkBench$Sheet", "solved", "Z", false)
  | _ => ("MarkBench$Sheet", "counted", "Z", false)
def ty_6 : Nat → FieldType := fun k => match k with
  | 0 => .object "MarkBench$Choices"
  | 1 => .object "MarkBench$Walk"
  | 2 => .object "MarkBench$Tally"
  | 3 => .array .int
  | 4 => .array .int
  | 5 => .array .int
  | 6 => .array .boolean
  | 7 => .int
  | 8 => .array .int
  | 9 => .int
  | 10 => .boolean
  | _ => .boolean
def T_7 : u_T := fun k => match k with
  | 0 => ("MarkBench$Tally", "walk", "LMarkBench$Walk;", true)
  | 1 => ("MarkBench$Tally", "choices", "LMarkBench$Choices;", true)
  | 2 => ("MarkBench$Tally", "within", "[J", true)
  | 3 => ("MarkBench$Tally", "here", "[J", false)
  | _ => ("MarkBench$Tally", "there", "[J", false)
def ty_7 : Nat → FieldType := fun k => match k with
  | 0 => .object "MarkBench$Walk"
  | 1 => .object "MarkBench$Choices"
  | 2 => .array .long
  | 3 => .array .long
  | _ => .array .long
def T_8 : u_T := fun k => match k with
  | 0 => ("MarkBench$Tokens", "sorts", "[I", true)
  | 1 => ("MarkBench$Tokens", "places", "[I", true)
  | 2 => ("MarkBench$Tokens", "lengths", "[I", true)
  | 3 => ("MarkBench$Tokens", "values", "[I", true)
  | _ => ("MarkBench$Tokens", "count", "I", false)
def ty_8 : Nat → FieldType := fun k => match k with
  | 0 => .array .int
  | 1 => .array .int
  | 2 => .array .int
  | 3 => .array .int
  | _ => .int
def T_9 : u_T := fun k => match k with
  | 0 => ("MarkBench$Walk", "choices", "LMarkBench$Choices;", true)
  | 1 => ("MarkBench$Walk", "lows", "[I", true)
  | 2 => ("MarkBench$Walk", "highs", "[I", true)
  | 3 => ("MarkBench$Walk", "gains", "[I", true)
  | 4 => ("MarkBench$Walk", "pairCosts", "[I", false)
  | 5 => ("MarkBench$Walk", "kindSets", "[I", true)
  | 6 => ("MarkBench$Walk", "rest", "[I", true)
  | 7 => ("MarkBench$Walk", "passed", "[I", true)
  | 8 => ("MarkBench$Walk", "entering", "[I", true)
  | 9 => ("MarkBench$Walk", "open", "Z", false)
  | 10 => ("MarkBench$Walk", "fixedWord", "I", false)
  | _ => ("MarkBench$Walk", "fixedReading", "I", false)
def ty_9 : Nat → FieldType := fun k => match k with
  | 0 => .object "MarkBench$Choices"
  | 1 => .array .int
  | 2 => .array .int
  | 3 => .array .int
  | 4 => .array .int
  | 5 => .array .int
  | 6 => .array .int
  | 7 => .array .int
  | 8 => .array .int
  | 9 => .boolean
  | 10 => .int
  | _ => .int
def T_10 : u_T := fun k => match k with
  | 0 => ("MarkBench", "tape", "[C", true)
  | 1 => ("MarkBench", "reader", "LMarkBench$BookReader;", true)
  | 2 => ("MarkBench", "hands", "LMarkBench$Hands;", true)
  | 3 => ("MarkBench", "choices", "LMarkBench$Choices;", true)
  | 4 => ("MarkBench", "sheet", "LMarkBench$Sheet;", true)
  | 5 => ("MarkBench", "tapeLength", "I", false)
  | 6 => ("MarkBench", "book", "LMarkBench$Book;", false)
  | 7 => ("MarkBench", "line", "LMarkBench$Line;", false)
  | 8 => ("MarkBench", "spareLine", "LMarkBench$Line;", false)
  | 9 => ("MarkBench", "faultKind", "I", false)
  | 10 => ("MarkBench", "faultAt", "I", false)
  | _ => ("MarkBench", "metre", "I", false)
def ty_10 : Nat → FieldType := fun k => match k with
  | 0 => .array .char
  | 1 => .object "MarkBench$BookReader"
  | 2 => .object "MarkBench$Hands"
  | 3 => .object "MarkBench$Choices"
  | 4 => .object "MarkBench$Sheet"
  | 5 => .int
  | 6 => .object "MarkBench$Book"
  | 7 => .object "MarkBench$Line"
  | 8 => .object "MarkBench$Line"
  | 9 => .int
  | 10 => .int
  | _ => .int
def T_11 : u_T := fun k => match k with
  | 0 => ("MarkBenchModel", "tape", "[B", true)
  | 1 => ("MarkBenchModel", "src", "[B", true)
  | 2 => ("MarkBenchModel", "taped", "I", false)
  | 3 => ("MarkBenchModel", "size", "I", false)
  | 4 => ("MarkBenchModel", "faultKind", "I", false)
  | 5 => ("MarkBenchModel", "faultPlace", "I", false)
  | 6 => ("MarkBenchModel", "at", "I", false)
  | 7 => ("MarkBenchModel", "end", "I", false)
  | 8 => ("MarkBenchModel", "token", "I", false)
  | 9 => ("MarkBenchModel", "number", "I", false)
  | 10 => ("MarkBenchModel", "name", "J", false)
  | 11 => ("MarkBenchModel", "wForm", "[B", true)
  | 12 => ("MarkBenchModel", "eOne", "[B", true)
  | 13 => ("MarkBenchModel", "eTwo", "[B", true)
  | 14 => ("MarkBenchModel", "nForm", "[B", true)
  | 15 => ("MarkBenchModel", "wSize", "[I", true)
  | 16 => ("MarkBenchModel", "wKind", "[I", true)
  | 17 => ("MarkBenchModel", "wCost", "[I", true)
  | 18 => ("MarkBenchModel", "wSince", "[I", true)
  | 19 => ("MarkBenchModel", "wUntil", "[I", true)
  | 20 => ("MarkBenchModel", "eSize", "[I", true)
  | 21 => ("MarkBenchModel", "eKind", "[I", true)
  | 22 => ("MarkBenchModel", "eCost", "[I", true)
  | 23 => ("MarkBenchModel", "nSize", "[I", true)
  | 24 => ("MarkBenchModel", "pairCost", "[I", true)
  | 25 => ("MarkBenchModel", "wMany", "[I", true)
  | 26 => ("MarkBenchModel", "eMany", "[I", true)
  | 27 => ("MarkBenchModel", "nMany", "[I", true)
  | 28 => ("MarkBenchModel", "pMany", "[I", true)
  | 29 => ("MarkBenchModel", "bareKind", "[I", true)
  | 30 => ("MarkBenchModel", "bareCost", "[I", true)
  | 31 => ("MarkBenchModel", "hasBare", "[Z", true)
  | 32 => ("MarkBenchModel", "bank", "I", false)
  | 33 => ("MarkBenchModel", "rb", "I", false)
  | 34 => ("MarkBenchModel", "line", "[B", true)
  | 35 => ("MarkBenchModel", "pFrom", "[I", true)
  | 36 => ("MarkBenchModel", "pSize", "[I", true)
  | 37 => ("MarkBenchModel", "isKept", "[Z", true)
  | 38 => ("MarkBenchModel", "placeMany", "I", false)
  | 39 => ("MarkBenchModel", "lineSize", "I", false)
  | 40 => ("MarkBenchModel", "lineDay", "I", false)
  | 41 => ("MarkBenchModel", "lines", "I", false)
  | 42 => ("MarkBenchModel", "qFrom", "[I", true)
  | 43 => ("MarkBenchModel", "qSize", "[I", true)
  | 44 => ("MarkBenchModel", "qKept", "[Z", true)
  | 45 => ("MarkBenchModel", "metre", "I", false)
  | 46 => ("MarkBenchModel", "rForm", "[B", true)
  | 47 => ("MarkBenchModel", "rMany", "[I", true)
  | 48 => ("MarkBenchModel", "rKind", "[I", true)
  | 49 => ("MarkBenchModel", "rCost", "[I", true)
  | 50 => ("MarkBenchModel", "rWord", "[I", true)
  | 51 => ("MarkBenchModel", "rMarks", "[I", true)
  | 52 => ("MarkBenchModel", "learnt", "[I", true)
  | 53 => ("MarkBenchModel", "isKnown", "Z", false)
  | 54 => ("MarkBenchModel", "ahead", "[I", true)
  | 55 => ("MarkBenchModel", "behind", "[I", true)
  | 56 => ("MarkBenchModel", "target", "I", false)
  | 57 => ("MarkBenchModel", "bestCost", "I", false)
  | 58 => ("MarkBenchModel", "only", "I", false)
  | 59 => ("MarkBenchModel", "onlyReading", "I", false)
  | 60 => ("MarkBenchModel", "chosen", "[I", true)
  | 61 => ("MarkBenchModel", "many", "[J", true)
  | 62 => ("MarkBenchModel", "hWord", "[I", true)
  | 63 => ("MarkBenchModel", "hPlace", "[I", true)
  | 64 => ("MarkBenchModel", "hLine", "[I", true)
  | 65 => ("MarkBenchModel", "isBack", "[Z", true)
  | _ => ("MarkBenchModel", "hands", "I", false)
def ty_11 : Nat → FieldType := fun k => match k with
  | 0 => .array .byte
  | 1 => .array .byte
  | 2 => .int
  | 3 => .int
  | 4 => .int
  | 5 => .int
  | 6 => .int
  | 7 => .int
  | 8 => .int
  | 9 => .int
  | 10 => .long
  | 11 => .array .byte
  | 12 => .array .byte
  | 13 => .array .byte
  | 14 => .array .byte
  | 15 => .array .int
  | 16 => .array .int
  | 17 => .array .int
  | 18 => .array .int
  | 19 => .array .int
  | 20 => .array .int
  | 21 => .array .int
  | 22 => .array .int
  | 23 => .array .int
  | 24 => .array .int
  | 25 => .array .int
  | 26 => .array .int
  | 27 => .array .int
  | 28 => .array .int
  | 29 => .array .int
  | 30 => .array .int
  | 31 => .array .boolean
  | 32 => .int
  | 33 => .int
  | 34 => .array .byte
  | 35 => .array .int
  | 36 => .array .int
  | 37 => .array .boolean
  | 38 => .int
  | 39 => .int
  | 40 => .int
  | 41 => .int
  | 42 => .array .int
  | 43 => .array .int
  | 44 => .array .boolean
  | 45 => .int
  | 46 => .array .byte
  | 47 => .array .int
  | 48 => .array .int
  | 49 => .array .int
  | 50 => .array .int
  | 51 => .array .int
  | 52 => .array .int
  | 53 => .boolean
  | 54 => .array .int
  | 55 => .array .int
  | 56 => .int
  | 57 => .int
  | 58 => .int
  | 59 => .int
  | 60 => .array .int
  | 61 => .array .long
  | 62 => .array .int
  | 63 => .array .int
  | 64 => .array .int
  | 65 => .array .boolean
  | _ => .int
def c_R : List (String × u_T × Nat × (Nat → FieldType)) := [("MarkBench$Book", T_0, 16, ty_0), ("MarkBench$BookReader", T_1, 10, ty_1), ("MarkBench$Choices", T_2, 9, ty_2), ("MarkBench$Forms", T_3, 3, ty_3), ("MarkBench$Hands", T_4, 4, ty_4), ("MarkBench$Line", T_5, 7, ty_5), ("MarkBench$Sheet", T_6, 12, ty_6), ("MarkBench$Tally", T_7, 5, ty_7), ("MarkBench$Tokens", T_8, 5, ty_8), ("MarkBench$Walk", T_9, 12, ty_9), ("MarkBench", T_10, 12, ty_10), ("MarkBenchModel", T_11, 67, ty_11)]
def a_cls : List vw_C := [("MarkBench$Book", T_0, 16), ("MarkBench$BookReader", T_1, 10), ("MarkBench$Choices", T_2, 9), ("MarkBench$Forms", T_3, 3), ("MarkBench$Hands", T_4, 4), ("MarkBench$Line", T_5, 7), ("MarkBench$Sheet", T_6, 12), ("MarkBench$Tally", T_7, 5), ("MarkBench$Tokens", T_8, 5), ("MarkBench$Walk", T_9, 12), ("MarkBench", T_10, 12), ("MarkBenchModel", T_11, 67)]
abbrev a_M : Type := MethodName × ByteArray × Nat × Option FieldType × Nat × Nat × Nat
def m_T0 : List a_M := [(⟨"MarkBenchLaw", "law", "([I)Z"⟩, code, 4, (some .boolean), 0, 12, 250), (⟨"MarkBench", "<init>", "()V"⟩, prog_1_method_1_code, 1, none, 1, 10, 214), (⟨"MarkBench$BookReader", "<init>", "([C)V"⟩, prog_3_method_1_code, 2, none, 3, 3, 61), (⟨"MarkBench$Book", "<init>", "()V"⟩, prog_2_method_1_code, 1, none, 2, 2, 41), (⟨"MarkBench$Forms", "<init>", "(I)V"⟩, prog_5_method_1_code, 2, none, 5, 1, 20), (⟨"MarkBench$Tokens", "<init>", "()V"⟩, prog_11_method_1_code, 1, none, 11, 1, 20), (⟨"MarkBench$Hands", "<init>", "()V"⟩, prog_6_method_1_code, 1, none, 6, 1, 20), (⟨"MarkBench$Choices", "<init>", "()V"⟩, prog_4_method_1_code, 1, none, 4, 2, 41), (⟨"MarkBench$Sheet", "<init>", "(LMarkBench$Choices;)V"⟩, prog_9_method_1_code, 2, none, 9, 2, 41), (⟨"MarkBench$Walk", "<init>", "(LMarkBench$Choices;)V"⟩, prog_12_method_1_code, 2, none, 12, 1, 20), (⟨"MarkBench$Tally", "<init>", "(LMarkBench$Walk;)V"⟩, prog_10_method_1_code, 2, none, 10, 1, 20), (⟨"MarkBench$Line", "<init>", "()V"⟩, prog_8_method_1_code, 1, none, 8, 1, 20), (⟨"MarkBench", "refresh", "()V"⟩, prog_1_method_23_code, 2, none, 1, 9, 193), (⟨"MarkBench$Hands", "standing", "(I)I"⟩, prog_6_method_6_code, 3, (some .int), 6, 0, 0), (⟨"MarkBench$Choices", "fill", "(ILMarkBench$Line;LMarkBench$Book;I)V"⟩, prog_4_method_4_code, 7, none, 4, 8, 167), (⟨"MarkBench$Choices", "addEntry", "(ILMarkBench$Book;I)V"⟩, prog_4_method_8_code, 6, none, 4, 3, 91), (⟨"MarkBench$Forms", "startOf", "(I)I"⟩, prog_5_method_4_code, 2, (some .int), 5, 0, 0), (⟨"MarkBench$Book", "costOf", "(I)I"⟩, prog_2_method_6_code, 2, (some .int), 2, 1, 21), (⟨"MarkBench$Choices", "add", "(I[CIIII)I"⟩, prog_4_method_9_code, 8, (some .int), 4, 2, 64), (⟨"MarkBench$Forms", "put", "(I[CII)V"⟩, prog_5_method_2_code, 5, none, 5, 1, 40), (⟨"MarkBench$Book", "hasName", "([CII)Z"⟩, prog_2_method_4_code, 5, (some .boolean), 2, 2, 49), (⟨"MarkBench$Forms", "isAlike", "(I[CII)Z"⟩, prog_5_method_7_code, 5, (some .boolean), 5, 1, 25), (⟨"MarkBench$Letters", "areAlike", "([CI[CII)Z"⟩, prog_7_method_6_code, 6, (some .boolean), 7, 0, 0), (⟨"MarkBench$Choices", "fillByWords", "(ILMarkBench$Line;LMarkBench$Book;)V"⟩, prog_4_method_5_code, 8, none, 4, 4, 116), (⟨"MarkBench$Book", "isInForce", "(II)Z"⟩, prog_2_method_5_code, 3, (some .boolean), 2, 0, 0), (⟨"MarkBench$Letters", "keepsMarks", "([CI[CII)Z"⟩, prog_7_method_8_code, 6, (some .boolean), 7, 1, 20), (⟨"MarkBench$Letters", "isMarked", "(C)Z"⟩, prog_7_method_2_code, 1, (some .boolean), 7, 0, 0), (⟨"MarkBench$Choices", "fillByEnds", "(ILMarkBench$Line;LMarkBench$Book;)V"⟩, prog_4_method_6_code, 10, none, 4, 3, 91), (⟨"MarkBench$Choices", "isNew", "(I[CII)Z"⟩, prog_4_method_7_code, 7, (some .boolean), 4, 2, 49), (⟨"MarkBench$Forms", "isSpelled", "(I[CII)Z"⟩, prog_5_method_6_code, 5, (some .boolean), 5, 1, 25), (⟨"MarkBench$Letters", "areSame", "([CI[CII)Z"⟩, prog_7_method_7_code, 6, (some .boolean), 7, 0, 0), (⟨"MarkBench$Choices", "weigh", "(I)V"⟩, prog_4_method_10_code, 8, none, 4, 7, 140), (⟨"MarkBench$Forms", "letterAt", "(II)C"⟩, prog_5_method_5_code, 3, (some .char), 5, 1, 21), (⟨"MarkBench$Letters", "isVowel", "(C)Z"⟩, prog_7_method_5_code, 1, (some .boolean), 7, 6, 120), (⟨"MarkBench$Sheet", "forget", "([II)V"⟩, prog_9_method_2_code, 3, none, 9, 0, 0), (⟨"MarkBench", "feed", "(IIIII)I"⟩, prog_1_method_2_code, 6, (some .int), 1, 1, 22), (⟨"MarkBench", "putOnTape", "(I)V"⟩, prog_1_method_22_code, 3, none, 1, 0, 0), (⟨"MarkBench", "end", "(I)I"⟩, prog_1_method_3_code, 2, (some .int), 1, 0, 0), (⟨"MarkBench", "book", "()I"⟩, prog_1_method_4_code, 3, (some .int), 1, 11, 228), (⟨"MarkBench$BookReader", "read", "(I)Z"⟩, prog_3_method_2_code, 3, (some .boolean), 3, 10, 206)]
def m_T1 : List a_M := [(⟨"MarkBench$Book", "clear", "()V"⟩, prog_2_method_2_code, 2, none, 2, 1, 23), (⟨"java/util/Arrays", "fill", "([II)V"⟩, prog_21_method_103_code, 4, none, 14, 0, 0), (⟨"MarkBench$Tokens", "split", "([CI)V"⟩, prog_11_method_2_code, 7, none, 11, 2, 50), (⟨"MarkBench$Letters", "isLetter", "(C)Z"⟩, prog_7_method_3_code, 1, (some .boolean), 7, 0, 0), (⟨"MarkBench$Tokens", "addForm", "([CII)I"⟩, prog_11_method_3_code, 6, (some .int), 11, 1, 24), (⟨"MarkBench$Tokens", "add", "(IIII)V"⟩, prog_11_method_5_code, 5, none, 11, 0, 0), (⟨"MarkBench$Letters", "isDigit", "(C)Z"⟩, prog_7_method_4_code, 1, (some .boolean), 7, 0, 0), (⟨"MarkBench$Tokens", "addNumber", "([CII)I"⟩, prog_11_method_4_code, 7, (some .int), 11, 1, 24), (⟨"MarkBench$BookReader", "advance", "()V"⟩, prog_3_method_17_code, 1, none, 3, 0, 0), (⟨"MarkBench$BookReader", "readLine", "()Z"⟩, prog_3_method_3_code, 1, (some .boolean), 3, 9, 186), (⟨"MarkBench$BookReader", "isWord", "(Ljava/lang/String;)Z"⟩, prog_3_method_16_code, 3, (some .boolean), 3, 6, 120), (⟨"MarkBench$BookReader", "readWord", "()Z"⟩, prog_3_method_4_code, 4, (some .boolean), 3, 8, 163), (⟨"MarkBench$BookReader", "misplaced", "()Z"⟩, prog_3_method_14_code, 1, (some .boolean), 3, 0, 0), (⟨"MarkBench$BookReader", "takeForm", "()Z"⟩, prog_3_method_10_code, 1, (some .boolean), 3, 2, 41), (⟨"MarkBench$BookReader", "stands", "(I)Z"⟩, prog_3_method_13_code, 2, (some .boolean), 3, 1, 20), (⟨"MarkBench$BookReader", "takeNumber", "(I)Z"⟩, prog_3_method_12_code, 2, (some .boolean), 3, 1, 22), (⟨"MarkBench$BookReader", "refuse", "(II)Z"⟩, prog_3_method_15_code, 3, (some .boolean), 3, 0, 0), (⟨"MarkBench$Book", "hasWord", "([CIII)Z"⟩, prog_2_method_3_code, 6, (some .boolean), 2, 2, 49), (⟨"MarkBench$BookReader", "readDays", "(I)Z"⟩, prog_3_method_5_code, 2, (some .boolean), 3, 7, 142), (⟨"MarkBench$Forms", "add", "([CII)V"⟩, prog_5_method_3_code, 4, none, 5, 2, 64), (⟨"MarkBench$BookReader", "readEnd", "()Z"⟩, prog_3_method_6_code, 5, (some .boolean), 3, 3, 87), (⟨"MarkBench$BookReader", "takeSign", "()Z"⟩, prog_3_method_11_code, 1, (some .boolean), 3, 2, 41), (⟨"MarkBench$BookReader", "readName", "()Z"⟩, prog_3_method_7_code, 3, (some .boolean), 3, 3, 87), (⟨"MarkBench$BookReader", "readPair", "(Z)Z"⟩, prog_3_method_8_code, 5, (some .boolean), 3, 3, 61), (⟨"MarkBench$Book", "tellPair", "(II)V"⟩, prog_2_method_7_code, 3, none, 2, 0, 0), (⟨"MarkBench$BookReader", "readBare", "()Z"⟩, prog_3_method_9_code, 1, (some .boolean), 3, 3, 61), (⟨"MarkBench$Line", "clear", "()V"⟩, prog_8_method_2_code, 1, none, 8, 0, 0), (⟨"MarkBench$Hands", "clear", "()V"⟩, prog_6_method_2_code, 1, none, 6, 0, 0), (⟨"MarkBench", "line", "(I)I"⟩, prog_1_method_5_code, 3, (some .int), 1, 10, 214), (⟨"MarkBench$Line", "read", "([CII)I"⟩, prog_8_method_3_code, 8, (some .int), 8, 1, 40), (⟨"MarkBench$Line", "begin", "(IZ)V"⟩, prog_8_method_4_code, 3, none, 8, 0, 0), (⟨"MarkBench$Hands", "leaveLine", "()V"⟩, prog_6_method_3_code, 2, none, 6, 0, 0), (⟨"MarkBench", "fault", "(I)I"⟩, prog_1_method_6_code, 2, (some .int), 1, 0, 0), (⟨"MarkBench", "metre", "(I)Z"⟩, prog_1_method_7_code, 2, (some .boolean), 1, 1, 22), (⟨"MarkBench", "readings", "(I)I"⟩, prog_1_method_8_code, 2, (some .int), 1, 1, 21), (⟨"MarkBench$Choices", "hasWord", "(I)Z"⟩, prog_4_method_2_code, 2, (some .boolean), 4, 0, 0), (⟨"MarkBench", "reading", "(III)I"⟩, prog_1_method_9_code, 5, (some .int), 1, 7, 167), (⟨"MarkBench$Choices", "slotOf", "(II)I"⟩, prog_4_method_3_code, 3, (some .int), 4, 1, 21), (⟨"MarkBench$Sheet", "costThrough", "(I)I"⟩, prog_9_method_5_code, 2, (some .int), 9, 6, 146), (⟨"MarkBench$Sheet", "workOut", "()V"⟩, prog_9_method_3_code, 2, none, 9, 5, 125)]
def m_T2 : List a_M := [(⟨"MarkBench$Walk", "prepare", "([II)V"⟩, prog_12_method_2_code, 7, none, 12, 3, 68), (⟨"MarkBench$Walk", "bound", "(I)V"⟩, prog_12_method_3_code, 5, none, 12, 2, 44), (⟨"MarkBench$Walk", "leastGain", "(I)I"⟩, prog_12_method_4_code, 4, (some .int), 12, 1, 21), (⟨"MarkBench$Walk", "mostGain", "(I)I"⟩, prog_12_method_5_code, 4, (some .int), 12, 1, 21), (⟨"MarkBench$Walk", "solve", "(II[II)I"⟩, prog_12_method_6_code, 7, (some .int), 12, 4, 99), (⟨"java/util/Arrays", "fill", "([IIII)V"⟩, prog_21_method_104_code, 5, none, 14, 1, 22), (⟨"java/util/Arrays", "rangeCheck", "(III)V"⟩, prog_21_method_30_code, 3, none, 14, 0, 0), (⟨"MarkBench$Walk", "walkBack", "()V"⟩, prog_12_method_12_code, 3, none, 12, 3, 77), (⟨"MarkBench$Walk", "hasKind", "(II)Z"⟩, prog_12_method_9_code, 3, (some .boolean), 12, 0, 0), (⟨"MarkBench$Walk", "fillRest", "(II)V"⟩, prog_12_method_13_code, 12, none, 12, 2, 46), (⟨"MarkBench$Walk", "stateOf", "(II)I"⟩, prog_12_method_10_code, 3, (some .int), 12, 0, 0), (⟨"MarkBench$Walk", "firstSlot", "(I)I"⟩, prog_12_method_7_code, 2, (some .int), 12, 0, 0), (⟨"MarkBench$Walk", "lastSlot", "(I)I"⟩, prog_12_method_8_code, 2, (some .int), 12, 0, 0), (⟨"MarkBench$Walk", "walkOn", "([II)V"⟩, prog_12_method_14_code, 5, none, 12, 3, 70), (⟨"MarkBench$Walk", "enter", "(I)V"⟩, prog_12_method_15_code, 5, none, 12, 2, 46), (⟨"MarkBench$Walk", "enterFrom", "(III)V"⟩, prog_12_method_16_code, 6, none, 12, 1, 21), (⟨"MarkBench$Walk", "pass", "(II)I"⟩, prog_12_method_17_code, 14, (some .int), 12, 1, 22), (⟨"MarkBench$Walk", "follow", "(I[I)V"⟩, prog_12_method_18_code, 13, none, 12, 2, 45), (⟨"MarkBench$Walk", "restOf", "(III)I"⟩, prog_12_method_11_code, 4, (some .int), 12, 1, 22), (⟨"MarkBench", "letter", "(III)I"⟩, prog_1_method_10_code, 5, (some .int), 1, 2, 43), (⟨"MarkBench", "best", "()I"⟩, prog_1_method_11_code, 1, (some .int), 1, 7, 166), (⟨"MarkBench$Sheet", "hasWay", "()Z"⟩, prog_9_method_4_code, 1, (some .boolean), 9, 6, 146), (⟨"MarkBench", "choice", "(I)I"⟩, prog_1_method_12_code, 2, (some .int), 1, 7, 166), (⟨"MarkBench", "ways", "(I)J"⟩, prog_1_method_13_code, 2, (some .long), 1, 7, 166), (⟨"MarkBench", "isGap", "(I)Z"⟩, prog_1_method_21_code, 1, (some .boolean), 1, 0, 0), (⟨"MarkBench$Sheet", "waysWithin", "(I)J"⟩, prog_9_method_6_code, 2, (some .long), 9, 5, 128), (⟨"MarkBench$Tally", "count", "(I)V"⟩, prog_10_method_2_code, 4, none, 10, 4, 105), (⟨"MarkBench$Tally", "clear", "([JI)V"⟩, prog_10_method_4_code, 5, none, 10, 2, 47), (⟨"MarkBench$Tally", "rowOf", "(III)I"⟩, prog_10_method_3_code, 4, (some .int), 10, 0, 0), (⟨"java/util/Arrays", "fill", "([JIIJ)V"⟩, prog_21_method_102_code, 6, none, 14, 1, 22), (⟨"MarkBench$Tally", "begin", "(I)V"⟩, prog_10_method_5_code, 6, none, 10, 2, 45), (⟨"MarkBench$Tally", "stepTo", "(I)V"⟩, prog_10_method_6_code, 7, none, 10, 3, 79), (⟨"MarkBench$Tally", "leastLoss", "(I)I"⟩, prog_10_method_7_code, 3, (some .int), 10, 0, 0), (⟨"MarkBench$Tally", "spread", "(IIIII)V"⟩, prog_10_method_8_code, 15, none, 10, 2, 45), (⟨"MarkBench$Tally", "sum", "()V"⟩, prog_10_method_9_code, 6, none, 10, 1, 23), (⟨"MarkBench", "sure", "(II)I"⟩, prog_1_method_14_code, 3, (some .int), 1, 7, 166), (⟨"MarkBench$Sheet", "isSure", "(II)Z"⟩, prog_9_method_7_code, 3, (some .boolean), 9, 4, 98), (⟨"MarkBench$Sheet", "isSureBy", "([IIII)Z"⟩, prog_9_method_10_code, 8, (some .boolean), 9, 3, 71), (⟨"MarkBench$Sheet", "nearFrom", "([IIII)I"⟩, prog_9_method_9_code, 8, (some .int), 9, 0, 0), (⟨"MarkBench$Choices", "areSpelledAlike", "(II)Z"⟩, prog_4_method_11_code, 3, (some .boolean), 4, 2, 49)]
def m_T3 : List a_M := [(⟨"MarkBench", "text", "(II)I"⟩, prog_1_method_15_code, 4, (some .int), 1, 7, 166), (⟨"MarkBench$Line", "wordAt", "(I)I"⟩, prog_8_method_5_code, 3, (some .int), 8, 0, 0), (⟨"MarkBench$Sheet", "firstNear", "(II)I"⟩, prog_9_method_8_code, 3, (some .int), 9, 1, 27), (⟨"MarkBench", "settle", "(II)I"⟩, prog_1_method_16_code, 6, (some .int), 1, 10, 214), (⟨"MarkBench$Hands", "add", "(II)I"⟩, prog_6_method_4_code, 3, (some .int), 6, 0, 0), (⟨"MarkBench", "back", "(I)Z"⟩, prog_1_method_17_code, 2, (some .boolean), 1, 10, 214), (⟨"MarkBench$Hands", "stands", "(I)Z"⟩, prog_6_method_5_code, 2, (some .boolean), 6, 0, 0), (⟨"MarkBench", "ask", "(I)I"⟩, prog_1_method_18_code, 2, (some .int), 1, 7, 175), (⟨"MarkBench$Sheet", "askedFirst", "(I)I"⟩, prog_9_method_11_code, 6, (some .int), 9, 6, 150), (⟨"MarkBench$Sheet", "sureIfRead", "(II)I"⟩, prog_9_method_12_code, 6, (some .int), 9, 5, 125), (⟨"MarkBench", "entry", "(II)I"⟩, prog_1_method_19_code, 3, (some .int), 1, 0, 0), (⟨"MarkBench", "about", "(I)I"⟩, prog_1_method_20_code, 2, (some .int), 1, 0, 0), (⟨"MarkBenchModel", "<init>", "()V"⟩, prog_14_method_11_code, 2, none, 13, 1, 20), (⟨"MarkBenchModel", "book", "()I"⟩, prog_14_method_16_code, 2, (some .int), 13, 6, 136), (⟨"MarkBenchModel", "takeTape", "()V"⟩, prog_14_method_17_code, 2, none, 13, 0, 0), (⟨"MarkBenchModel", "next", "()V"⟩, prog_14_method_8_code, 3, none, 13, 2, 40), (⟨"MarkBenchModel", "sign", "(I)I"⟩, prog_14_method_1_code, 2, (some .int), 13, 0, 0), (⟨"MarkBenchModel", "isLetter", "(I)Z"⟩, prog_14_method_3_code, 1, (some .boolean), 13, 1, 20), (⟨"MarkBenchModel", "isMarked", "(I)Z"⟩, prog_14_method_2_code, 1, (some .boolean), 13, 0, 0), (⟨"MarkBenchModel", "isDigit", "(I)Z"⟩, prog_14_method_5_code, 1, (some .boolean), 13, 0, 0), (⟨"MarkBenchModel", "isGood", "()Z"⟩, prog_14_method_7_code, 1, (some .boolean), 13, 0, 0), (⟨"MarkBenchModel", "readLine", "()V"⟩, prog_14_method_18_code, 7, none, 13, 5, 110), (⟨"MarkBenchModel", "isWord", "(J)Z"⟩, prog_14_method_9_code, 3, (some .boolean), 13, 0, 0), (⟨"MarkBenchModel", "wrong", "()V"⟩, prog_14_method_10_code, 1, none, 13, 1, 22), (⟨"MarkBenchModel", "fails", "(II)V"⟩, prog_14_method_6_code, 3, none, 13, 0, 0), (⟨"MarkBenchModel", "readWord", "()V"⟩, prog_14_method_19_code, 4, none, 13, 4, 86), (⟨"MarkBenchModel", "form", "()V"⟩, prog_14_method_14_code, 1, none, 13, 2, 42), (⟨"MarkBenchModel", "take", "([BI)I"⟩, prog_14_method_12_code, 5, (some .int), 13, 3, 62), (⟨"MarkBenchModel", "numeral", "(I)I"⟩, prog_14_method_13_code, 3, (some .int), 13, 3, 62), (⟨"MarkBenchModel", "areAlike", "([BI[BIIZ)Z"⟩, prog_14_method_15_code, 7, (some .boolean), 13, 2, 40), (⟨"MarkBenchModel", "bare", "(I)I"⟩, prog_14_method_4_code, 1, (some .int), 13, 1, 20), (⟨"MarkBenchModel", "readEnd", "()V"⟩, prog_14_method_20_code, 4, none, 13, 4, 86), (⟨"MarkBenchModel", "readName", "()V"⟩, prog_14_method_21_code, 4, none, 13, 4, 86), (⟨"MarkBenchModel", "readPair", "(Z)V"⟩, prog_14_method_22_code, 7, none, 13, 4, 84), (⟨"MarkBenchModel", "readBare", "()V"⟩, prog_14_method_23_code, 1, none, 13, 4, 84), (⟨"MarkBenchModel", "fault", "(I)I"⟩, prog_14_method_24_code, 2, (some .int), 13, 0, 0), (⟨"MarkBenchModel", "line", "(I)I"⟩, prog_14_method_26_code, 4, (some .int), 13, 3, 65), (⟨"MarkBenchModel", "readWords", "()I"⟩, prog_14_method_25_code, 6, (some .int), 13, 2, 40), (⟨"MarkBenchModel", "metre", "(I)Z"⟩, prog_14_method_27_code, 2, (some .boolean), 13, 0, 0), (⟨"MarkBenchModel", "readings", "(I)I"⟩, prog_14_method_53_code, 2, (some .int), 13, 7, 159)]
def m_T4 : List a_M := [(⟨"MarkBenchModel", "isPlace", "(I)Z"⟩, prog_14_method_51_code, 2, (some .boolean), 13, 0, 0), (⟨"MarkBenchModel", "know", "()V"⟩, prog_14_method_44_code, 2, none, 13, 6, 138), (⟨"MarkBenchModel", "readingsOf", "(I)V"⟩, prog_14_method_36_code, 5, none, 13, 5, 114), (⟨"MarkBenchModel", "handOf", "(I)I"⟩, prog_14_method_74_code, 3, (some .int), 13, 0, 0), (⟨"MarkBenchModel", "addWord", "(II)V"⟩, prog_14_method_33_code, 5, none, 13, 3, 64), (⟨"MarkBenchModel", "costOf", "(I)I"⟩, prog_14_method_32_code, 3, (some .int), 13, 0, 0), (⟨"MarkBenchModel", "add", "(IIII)I"⟩, prog_14_method_30_code, 7, (some .int), 13, 0, 0), (⟨"MarkBenchModel", "countMarks", "(II)V"⟩, prog_14_method_31_code, 5, none, 13, 2, 40), (⟨"MarkBenchModel", "isVowel", "(I)Z"⟩, prog_14_method_29_code, 1, (some .boolean), 13, 0, 0), (⟨"MarkBenchModel", "isName", "(I)Z"⟩, prog_14_method_35_code, 5, (some .boolean), 13, 2, 40), (⟨"MarkBenchModel", "letterAt", "(II)I"⟩, prog_14_method_28_code, 3, (some .int), 13, 0, 0), (⟨"MarkBenchModel", "fits", "([BIIII)Z"⟩, prog_14_method_34_code, 9, (some .boolean), 13, 2, 40), (⟨"MarkBenchModel", "addEnd", "(II)V"⟩, prog_14_method_37_code, 6, none, 13, 4, 89), (⟨"MarkBenchModel", "addNew", "(II)V"⟩, prog_14_method_38_code, 4, none, 13, 3, 66), (⟨"MarkBenchModel", "vowels", "()I"⟩, prog_14_method_41_code, 4, (some .int), 13, 2, 40), (⟨"MarkBenchModel", "reckon", "()V"⟩, prog_14_method_45_code, 3, none, 13, 3, 75), (⟨"MarkBenchModel", "counts", "(II)Z"⟩, prog_14_method_43_code, 3, (some .boolean), 13, 0, 0), (⟨"MarkBenchModel", "goAhead", "(II)V"⟩, prog_14_method_48_code, 6, none, 13, 2, 50), (⟨"MarkBenchModel", "comes", "(III)I"⟩, prog_14_method_46_code, 8, (some .int), 13, 1, 23), (⟨"MarkBenchModel", "marksOf", "(I)I"⟩, prog_14_method_42_code, 2, (some .int), 13, 0, 0), (⟨"MarkBenchModel", "spot", "(III)I"⟩, prog_14_method_39_code, 3, (some .int), 13, 0, 0), (⟨"MarkBenchModel", "pair", "(II)I"⟩, prog_14_method_40_code, 4, (some .int), 13, 0, 0), (⟨"MarkBenchModel", "goBehind", "(II)V"⟩, prog_14_method_49_code, 7, none, 13, 2, 49), (⟨"MarkBenchModel", "goesOn", "(III)I"⟩, prog_14_method_47_code, 7, (some .int), 13, 1, 23), (⟨"MarkBenchModel", "reading", "(III)I"⟩, prog_14_method_55_code, 5, (some .int), 13, 8, 181), (⟨"MarkBenchModel", "isReading", "(II)Z"⟩, prog_14_method_52_code, 3, (some .boolean), 13, 7, 159), (⟨"MarkBenchModel", "weight", "(II)I"⟩, prog_14_method_54_code, 5, (some .int), 13, 2, 40), (⟨"MarkBenchModel", "through", "(II)I"⟩, prog_14_method_50_code, 6, (some .int), 13, 2, 50), (⟨"MarkBenchModel", "letter", "(III)I"⟩, prog_14_method_56_code, 4, (some .int), 13, 8, 181), (⟨"MarkBenchModel", "best", "()I"⟩, prog_14_method_57_code, 1, (some .int), 13, 7, 159), (⟨"MarkBenchModel", "choice", "(I)I"⟩, prog_14_method_60_code, 2, (some .int), 13, 8, 179), (⟨"MarkBenchModel", "choose", "()V"⟩, prog_14_method_58_code, 5, none, 13, 3, 75), (⟨"MarkBenchModel", "isBestWith", "(IIII)Z"⟩, prog_14_method_59_code, 7, (some .boolean), 13, 2, 49), (⟨"MarkBenchModel", "ways", "(I)J"⟩, prog_14_method_67_code, 6, (some .long), 13, 8, 179), (⟨"MarkBenchModel", "clear", "(I)V"⟩, prog_14_method_63_code, 3, none, 13, 1, 23), (⟨"MarkBenchModel", "cell", "(IIII)I"⟩, prog_14_method_61_code, 4, (some .int), 13, 0, 0), (⟨"MarkBenchModel", "begin", "(II)V"⟩, prog_14_method_65_code, 6, none, 13, 2, 49), (⟨"MarkBenchModel", "rest", "(III)I"⟩, prog_14_method_62_code, 7, (some .int), 13, 1, 23), (⟨"MarkBenchModel", "hasAny", "(IIII)Z"⟩, prog_14_method_66_code, 6, (some .boolean), 13, 1, 23), (⟨"MarkBenchModel", "spread", "(IIIII)V"⟩, prog_14_method_64_code, 13, none, 13, 2, 49)]
def m_T5 : List a_M := [(⟨"MarkBenchModel", "sure", "(II)I"⟩, prog_14_method_71_code, 3, (some .int), 13, 8, 179), (⟨"MarkBenchModel", "isGap", "(I)Z"⟩, prog_14_method_68_code, 1, (some .boolean), 13, 0, 0), (⟨"MarkBenchModel", "isSure", "(II)Z"⟩, prog_14_method_70_code, 5, (some .boolean), 13, 4, 98), (⟨"MarkBenchModel", "firstNear", "(II)I"⟩, prog_14_method_69_code, 4, (some .int), 13, 3, 75), (⟨"MarkBenchModel", "text", "(II)I"⟩, prog_14_method_72_code, 4, (some .int), 13, 8, 179), (⟨"MarkBenchModel", "ask", "(I)I"⟩, prog_14_method_73_code, 8, (some .int), 13, 8, 179), (⟨"MarkBenchModel", "settle", "(II)I"⟩, prog_14_method_75_code, 4, (some .int), 13, 8, 181), (⟨"MarkBenchModel", "back", "(I)Z"⟩, prog_14_method_76_code, 2, (some .boolean), 13, 0, 0), (⟨"MarkBenchModel", "entry", "(II)I"⟩, prog_14_method_77_code, 4, (some .int), 13, 0, 0), (⟨"MarkBenchModel", "about", "(I)I"⟩, prog_14_method_78_code, 2, (some .int), 13, 0, 0), (⟨"MarkBenchModel", "feed", "(IIIII)I"⟩, prog_14_method_79_code, 8, (some .int), 13, 0, 0), (⟨"MarkBenchModel", "end", "(I)I"⟩, prog_14_method_80_code, 2, (some .int), 13, 0, 0)]
def m_T : List a_M := m_T0 ++ (m_T1 ++ (m_T2 ++ (m_T3 ++ (m_T4 ++ (m_T5)))))
def m_d : a_M := (⟨"", "", ""⟩, ⟨#[]⟩, 0, none, 0, 0, 0)
def m_y (i : Nat) : MethodName := (m_T.getD i m_d).1
def m_b (i : Nat) : ByteArray := (m_T.getD i m_d).2.1
def m_l (i : Nat) : Nat := (m_T.getD i m_d).2.2.1
def m_r (i : Nat) : Option FieldType := (m_T.getD i m_d).2.2.2.1
def m_o (i : Nat) : Nat := (m_T.getD i m_d).2.2.2.2.1
def m_f (i : Nat) : Nat := (m_T.getD i m_d).2.2.2.2.2.1
def m_w (i : Nat) : Nat := (m_T.getD i m_d).2.2.2.2.2.2
abbrev a_Tb : Type := List ((Nat × Nat) × (Nat × Nat × Nat))
def f_T0 : a_Tb := [((1, 9), (10, 0, 728)), ((1, 18), (10, 1, 729)), ((1, 25), (10, 2, 730)), ((1, 32), (10, 3, 731)), ((1, 41), (10, 4, 732)), ((1, 45), (10, 5, 733)), ((1, 52), (10, 6, 734)), ((1, 59), (10, 7, 735)), ((1, 63), (10, 8, 736)), ((1, 66), (10, 9, 737)), ((1, 69), (10, 10, 738)), ((1, 72), (10, 11, 739)), ((1, 86), (1, 0, 278)), ((1, 89), (1, 1, 280)), ((1, 90), (1, 2, 282)), ((1, 95), (0, 0, 170)), ((1, 99), (3, 2, 157)), ((1, 111), (5, 5, 527)), ((1, 113), (0, 10, 202)), ((1, 124), (2, 0, 344)), ((1, 131), (2, 3, 354)), ((1, 134), (2, 4, 357)), ((1, 137), (2, 1, 348)), ((1, 140), (2, 5, 361)), ((1, 143), (2, 2, 350)), ((1, 146), (3, 1, 153)), ((1, 149), (2, 6, 363)), ((1, 164), (6, 7, 476)), ((1, 167), (6, 4, 472)), ((1, 183), (5, 4, 525)), ((1, 189), (5, 0, 516)), ((1, 195), (5, 1, 519)), ((1, 198), (4, 3, 323)), ((1, 199), (0, 5, 187)), ((1, 208), (4, 2, 321)), ((1, 212), (4, 1, 319)), ((1, 216), (0, 1, 175)), ((1, 217), (0, 2, 178)), ((1, 218), (0, 3, 181)), ((1, 221), (0, 4, 184)), ((1, 224), (0, 6, 191)), ((1, 227), (0, 9, 200)), ((1, 230), (0, 12, 207)), ((1, 233), (5, 6, 530)), ((1, 236), (2, 8, 369)), ((2, 14), (0, 0, 168)), ((2, 20), (0, 1, 172)), ((2, 24), (0, 2, 176)), ((2, 27), (0, 3, 179)), ((2, 30), (0, 4, 182)), ((2, 33), (0, 5, 185)), ((2, 36), (0, 6, 188)), ((2, 39), (0, 7, 192)), ((2, 42), (0, 8, 195)), ((2, 45), (0, 9, 198)), ((2, 48), (0, 10, 201)), ((2, 51), (0, 11, 203)), ((2, 55), (0, 12, 205)), ((2, 59), (0, 13, 208)), ((2, 63), (0, 14, 210))]
def f_T1 : a_Tb := [((2, 66), (0, 15, 213)), ((2, 69), (3, 2, 155)), ((3, 9), (1, 0, 277)), ((3, 15), (1, 1, 279)), ((3, 21), (1, 2, 281)), ((3, 28), (1, 4, 284)), ((3, 32), (1, 5, 285)), ((3, 35), (1, 6, 286)), ((3, 38), (1, 7, 287)), ((3, 41), (1, 8, 288)), ((3, 44), (1, 9, 289)), ((3, 47), (1, 3, 283)), ((3, 58), (8, 4, 265)), ((3, 103), (0, 0, 169)), ((3, 107), (3, 2, 156)), ((3, 125), (0, 1, 173)), ((3, 129), (0, 2, 177)), ((3, 132), (0, 5, 186)), ((3, 142), (0, 3, 180)), ((3, 145), (0, 4, 183)), ((3, 154), (0, 6, 189)), ((3, 163), (0, 7, 193)), ((3, 166), (0, 8, 196)), ((3, 172), (0, 9, 199)), ((3, 179), (0, 12, 206)), ((3, 182), (0, 11, 204)), ((3, 191), (0, 13, 209)), ((3, 195), (0, 14, 212)), ((3, 198), (0, 15, 215)), ((3, 210), (8, 0, 257)), ((3, 213), (8, 1, 259)), ((3, 216), (8, 2, 261)), ((3, 219), (8, 3, 263)), ((4, 9), (2, 0, 341)), ((4, 15), (2, 1, 346)), ((4, 23), (2, 2, 349)), ((4, 27), (2, 3, 351)), ((4, 30), (2, 4, 355)), ((4, 33), (2, 5, 359)), ((4, 36), (2, 6, 362)), ((4, 39), (2, 7, 364)), ((4, 43), (2, 8, 365)), ((4, 51), (5, 1, 518)), ((4, 56), (5, 2, 521)), ((4, 63), (5, 3, 523)), ((4, 67), (5, 0, 515)), ((4, 90), (0, 0, 171)), ((4, 92), (3, 2, 158)), ((4, 99), (5, 6, 529)), ((4, 106), (3, 0, 150)), ((4, 119), (0, 6, 190)), ((4, 122), (3, 1, 152)), ((4, 132), (0, 7, 194)), ((4, 135), (0, 8, 197)), ((4, 138), (0, 14, 211)), ((4, 141), (0, 15, 214)), ((4, 147), (0, 1, 174)), ((5, 9), (3, 2, 154)), ((5, 15), (3, 0, 149)), ((5, 19), (3, 1, 151))]
def f_T2 : a_Tb := [((6, 9), (4, 0, 317)), ((6, 15), (4, 1, 318)), ((6, 18), (4, 2, 320)), ((6, 22), (4, 3, 322)), ((8, 9), (5, 0, 514)), ((8, 15), (5, 1, 517)), ((8, 19), (5, 2, 520)), ((8, 22), (5, 3, 522)), ((8, 26), (5, 4, 524)), ((8, 30), (5, 5, 526)), ((8, 33), (5, 6, 528)), ((9, 9), (6, 3, 470)), ((9, 15), (6, 4, 471)), ((9, 18), (6, 5, 473)), ((9, 21), (6, 6, 474)), ((9, 25), (6, 7, 475)), ((9, 29), (6, 8, 477)), ((9, 32), (6, 9, 478)), ((9, 35), (6, 10, 479)), ((9, 39), (6, 11, 480)), ((9, 42), (6, 0, 467)), ((9, 51), (6, 1, 468)), ((9, 60), (6, 2, 469)), ((9, 64), (2, 8, 368)), ((9, 89), (7, 2, 452)), ((9, 101), (2, 0, 345)), ((10, 13), (7, 2, 451)), ((10, 17), (7, 3, 453)), ((10, 20), (7, 4, 454)), ((10, 23), (7, 0, 449)), ((10, 27), (9, 0, 401)), ((10, 31), (7, 1, 450)), ((10, 41), (2, 8, 367)), ((10, 53), (9, 1, 404)), ((10, 65), (9, 2, 406)), ((10, 74), (2, 0, 343)), ((10, 77), (2, 3, 353)), ((10, 80), (9, 3, 408)), ((10, 83), (2, 4, 356)), ((10, 97), (9, 4, 410)), ((11, 9), (8, 0, 256)), ((11, 15), (8, 1, 258)), ((11, 18), (8, 2, 260)), ((11, 21), (8, 3, 262)), ((11, 24), (8, 4, 264)), ((12, 9), (9, 1, 403)), ((12, 15), (9, 2, 405)), ((12, 18), (9, 3, 407)), ((12, 21), (9, 4, 409)), ((12, 24), (9, 5, 411)), ((12, 27), (9, 6, 412)), ((12, 30), (9, 7, 413)), ((12, 33), (9, 8, 414)), ((12, 36), (9, 9, 415)), ((12, 40), (9, 10, 416)), ((12, 44), (9, 11, 417)), ((12, 47), (9, 0, 402)), ((12, 51), (2, 8, 366)), ((12, 56), (2, 1, 347)), ((12, 59), (2, 0, 342))]
def f_T3 : a_Tb := [((12, 62), (2, 5, 360)), ((12, 63), (2, 3, 352)), ((12, 117), (2, 4, 358)), ((13, 1), (11, 3, 1209)), ((13, 7), (11, 1, 1207)), ((13, 15), (11, 4, 1210)), ((13, 18), (11, 5, 1211)), ((13, 21), (11, 7, 1213)), ((13, 24), (11, 6, 1212)), ((13, 31), (11, 8, 1214)), ((13, 37), (11, 10, 1216)), ((13, 44), (11, 9, 1215)), ((13, 57), (11, 0, 1206)), ((13, 60), (11, 11, 1217)), ((13, 63), (11, 12, 1218)), ((13, 66), (11, 13, 1219)), ((13, 69), (11, 14, 1220)), ((13, 72), (11, 15, 1221)), ((13, 76), (11, 16, 1222)), ((13, 79), (11, 17, 1223)), ((13, 82), (11, 18, 1224)), ((13, 85), (11, 19, 1225)), ((13, 88), (11, 20, 1226)), ((13, 91), (11, 21, 1227)), ((13, 94), (11, 22, 1228)), ((13, 97), (11, 23, 1229)), ((13, 100), (11, 24, 1230)), ((13, 103), (11, 25, 1231)), ((13, 106), (11, 26, 1232)), ((13, 109), (11, 27, 1233)), ((13, 112), (11, 28, 1234)), ((13, 115), (11, 29, 1235)), ((13, 118), (11, 30, 1236)), ((13, 121), (11, 31, 1237)), ((13, 125), (11, 34, 1240)), ((13, 128), (11, 35, 1241)), ((13, 131), (11, 36, 1242)), ((13, 134), (11, 37, 1243)), ((13, 137), (11, 42, 1248)), ((13, 140), (11, 43, 1249)), ((13, 143), (11, 44, 1250)), ((13, 146), (11, 45, 1251)), ((13, 149), (11, 46, 1252)), ((13, 152), (11, 47, 1253)), ((13, 155), (11, 48, 1254)), ((13, 158), (11, 49, 1255)), ((13, 161), (11, 50, 1256)), ((13, 164), (11, 51, 1257)), ((13, 167), (11, 52, 1258)), ((13, 170), (11, 54, 1260)), ((13, 173), (11, 55, 1261)), ((13, 176), (11, 58, 1264)), ((13, 179), (11, 60, 1266)), ((13, 183), (11, 61, 1267)), ((13, 187), (11, 62, 1268)), ((13, 190), (11, 63, 1269)), ((13, 193), (11, 64, 1270)), ((13, 196), (11, 65, 1271)), ((13, 215), (11, 32, 1238)), ((13, 218), (11, 33, 1239))]
def f_T4 : a_Tb := [((13, 224), (11, 38, 1244)), ((13, 227), (11, 39, 1245)), ((13, 230), (11, 41, 1247)), ((13, 233), (11, 66, 1272)), ((13, 236), (11, 53, 1259)), ((13, 240), (11, 2, 1208)), ((13, 298), (11, 40, 1246)), ((13, 338), (11, 59, 1265)), ((13, 348), (11, 56, 1262)), ((13, 364), (11, 57, 1263))]
def f_T : a_Tb := f_T0 ++ (f_T1 ++ (f_T2 ++ (f_T3 ++ (f_T4))))
def k_T0 : a_Tb := [((1, 3), (4, 0, 0)), ((1, 15), (2, 2, 1)), ((1, 24), (3, 6, 0)), ((1, 31), (3, 7, 0)), ((1, 38), (2, 8, 1)), ((1, 51), (3, 3, 0)), ((1, 58), (3, 11, 0)), ((1, 75), (0, 12, 0)), ((1, 78), (0, 36, 1)), ((1, 82), (0, 39, 1)), ((1, 91), (0, 66, 0)), ((1, 94), (0, 67, 0)), ((1, 105), (0, 69, 3)), ((1, 108), (0, 71, 0)), ((1, 117), (0, 34, 2)), ((1, 121), (0, 75, 1)), ((1, 127), (0, 77, 2)), ((1, 152), (0, 78, 1)), ((1, 156), (0, 32, 2)), ((1, 160), (0, 101, 0)), ((1, 170), (1, 104, 1)), ((1, 175), (0, 105, 1)), ((1, 179), (0, 116, 2)), ((1, 186), (0, 121, 1)), ((1, 192), (0, 122, 2)), ((1, 202), (0, 124, 2)), ((1, 205), (0, 126, 1)), ((1, 213), (0, 128, 1)), ((1, 237), (0, 13, 1)), ((1, 240), (0, 14, 4)), ((2, 3), (4, 0, 0)), ((2, 11), (2, 4, 1)), ((2, 72), (1, 41, 2)), ((2, 78), (0, 29, 4)), ((2, 82), (0, 21, 4)), ((2, 85), (6, 0, 2)), ((3, 3), (4, 0, 0)), ((3, 20), (3, 3, 0)), ((3, 27), (3, 5, 0)), ((3, 51), (0, 40, 0)), ((3, 54), (0, 42, 2)), ((3, 61), (0, 48, 0)), ((3, 64), (0, 49, 0)), ((3, 70), (0, 50, 1)), ((3, 74), (0, 51, 0)), ((3, 79), (0, 60, 0)), ((3, 84), (0, 62, 0)), ((3, 89), (0, 63, 1)), ((3, 97), (0, 65, 0)), ((3, 100), (0, 52, 0)), ((3, 110), (0, 53, 0)), ((3, 113), (0, 55, 1)), ((3, 117), (0, 57, 4)), ((3, 121), (0, 56, 2)), ((3, 135), (0, 58, 1)), ((3, 138), (0, 59, 3)), ((3, 151), (0, 54, 1)), ((3, 157), (1, 22, 5)), ((3, 169), (0, 61, 0)), ((3, 175), (0, 20, 3))]
def k_T1 : a_Tb := [((3, 187), (0, 64, 2)), ((3, 201), (8, 0, 0)), ((3, 206), (9, 0, 1)), ((4, 3), (4, 0, 0)), ((4, 20), (2, 4, 1)), ((4, 47), (0, 75, 1)), ((4, 59), (0, 15, 3)), ((4, 70), (0, 20, 3)), ((4, 76), (0, 18, 6)), ((4, 80), (0, 23, 3)), ((4, 84), (0, 27, 3)), ((4, 87), (0, 31, 1)), ((4, 95), (0, 21, 4)), ((4, 102), (0, 24, 2)), ((4, 109), (0, 16, 1)), ((4, 113), (1, 25, 5)), ((4, 123), (7, 0, 5)), ((4, 129), (0, 28, 4)), ((4, 144), (0, 29, 4)), ((4, 148), (0, 17, 1)), ((4, 151), (0, 19, 4)), ((4, 155), (0, 32, 2)), ((4, 159), (1, 33, 1)), ((4, 163), (1, 26, 1)), ((5, 3), (4, 0, 0)), ((5, 23), (7, 0, 5)), ((5, 29), (0, 19, 4)), ((5, 33), (0, 16, 1)), ((5, 37), (1, 30, 5)), ((5, 43), (1, 22, 5)), ((6, 3), (4, 0, 0)), ((7, 11), (10, 0, 1)), ((7, 17), (1, 26, 1)), ((8, 3), (4, 0, 0)), ((8, 36), (0, 66, 0)), ((8, 39), (1, 43, 1)), ((8, 45), (0, 70, 2)), ((8, 49), (7, 0, 5)), ((9, 3), (4, 0, 0)), ((9, 48), (2, 9, 1)), ((9, 57), (2, 10, 1)), ((9, 69), (0, 80, 2)), ((9, 73), (0, 84, 4)), ((9, 78), (0, 97, 2)), ((9, 82), (0, 79, 0)), ((9, 85), (0, 106, 1)), ((9, 93), (0, 117, 4)), ((9, 97), (0, 118, 4)), ((9, 104), (0, 119, 2)), ((9, 108), (0, 116, 2)), ((9, 111), (0, 129, 2)), ((10, 7), (4, 0, 0)), ((10, 33), (0, 107, 2)), ((10, 37), (0, 110, 1)), ((10, 47), (0, 111, 1)), ((10, 50), (0, 114, 0)), ((10, 57), (0, 88, 2)), ((10, 61), (0, 108, 3)), ((10, 68), (1, 109, 4)), ((10, 86), (0, 98, 3))]
def k_T2 : a_Tb := [((10, 89), (0, 112, 1)), ((10, 93), (0, 113, 5)), ((11, 3), (4, 0, 0)), ((11, 28), (1, 43, 1)), ((11, 34), (0, 44, 3)), ((11, 38), (1, 46, 1)), ((11, 41), (0, 47, 3)), ((11, 44), (0, 45, 4)), ((11, 48), (5, 0, 2)), ((12, 3), (4, 0, 0)), ((12, 66), (0, 81, 1)), ((12, 70), (0, 82, 1)), ((12, 74), (0, 83, 1)), ((12, 77), (6, 0, 2)), ((12, 83), (5, 0, 2)), ((12, 87), (1, 85, 4)), ((12, 93), (0, 87, 0)), ((12, 96), (0, 93, 2)), ((12, 100), (0, 90, 2)), ((12, 103), (0, 88, 2)), ((12, 107), (0, 89, 2)), ((12, 111), (0, 91, 1)), ((12, 114), (0, 92, 1)), ((12, 120), (0, 94, 1)), ((12, 123), (1, 41, 2)), ((12, 125), (0, 96, 2)), ((12, 128), (0, 95, 3)), ((12, 132), (0, 98, 3)), ((0, 9), (2, 1, 0)), ((0, 12), (2, 132, 0)), ((0, 13), (0, 35, 5)), ((0, 17), (0, 210, 5)), ((0, 18), (0, 37, 1)), ((0, 22), (0, 211, 1)), ((0, 23), (0, 38, 0)), ((0, 27), (0, 133, 0)), ((0, 28), (0, 68, 1)), ((0, 31), (0, 156, 1)), ((0, 32), (0, 72, 1)), ((0, 35), (0, 155, 1)), ((0, 36), (0, 73, 1)), ((0, 40), (0, 158, 1)), ((0, 41), (0, 74, 1)), ((0, 44), (0, 159, 1)), ((0, 45), (0, 76, 3)), ((0, 49), (0, 184, 3)), ((0, 50), (0, 99, 3)), ((0, 53), (0, 188, 3)), ((0, 54), (0, 100, 0)), ((0, 57), (0, 189, 0)), ((0, 58), (0, 102, 1)), ((0, 61), (0, 190, 1)), ((0, 62), (0, 103, 1)), ((0, 66), (0, 193, 1)), ((0, 67), (0, 115, 2)), ((0, 71), (0, 200, 2)), ((0, 72), (0, 120, 2)), ((0, 75), (0, 204, 2)), ((0, 76), (0, 123, 2)), ((0, 79), (0, 206, 2))]
def k_T3 : a_Tb := [((0, 80), (0, 125, 1)), ((0, 83), (0, 207, 1)), ((0, 84), (0, 127, 1)), ((0, 87), (0, 205, 1)), ((0, 88), (0, 130, 2)), ((0, 91), (0, 208, 2)), ((0, 92), (0, 131, 1)), ((0, 95), (0, 209, 1)), ((13, 11), (1, 138, 1)), ((13, 27), (0, 136, 1)), ((13, 34), (1, 137, 1)), ((13, 41), (1, 139, 1)), ((13, 47), (0, 144, 2)), ((13, 51), (4, 0, 0)), ((13, 199), (0, 135, 0)), ((13, 202), (0, 140, 0)), ((13, 206), (0, 143, 0)), ((13, 209), (1, 150, 1)), ((13, 212), (0, 134, 0)), ((13, 221), (0, 141, 0)), ((13, 245), (0, 142, 1)), ((13, 259), (0, 145, 0)), ((13, 262), (0, 151, 0)), ((13, 265), (0, 152, 0)), ((13, 268), (0, 153, 1)), ((13, 272), (0, 154, 0)), ((13, 275), (0, 146, 0)), ((13, 278), (0, 147, 2)), ((13, 282), (0, 148, 1)), ((13, 285), (1, 149, 6)), ((13, 294), (0, 157, 0)), ((13, 301), (1, 168, 1)), ((13, 304), (0, 165, 1)), ((13, 307), (0, 166, 4)), ((13, 311), (0, 167, 2)), ((13, 314), (0, 170, 2)), ((13, 318), (0, 163, 1)), ((13, 321), (0, 164, 2)), ((13, 324), (0, 169, 1)), ((13, 327), (0, 171, 5)), ((13, 331), (0, 172, 2)), ((13, 334), (0, 173, 2)), ((13, 341), (0, 162, 1)), ((13, 345), (0, 174, 0)), ((13, 351), (0, 175, 0)), ((13, 354), (0, 176, 2)), ((13, 358), (0, 177, 2)), ((13, 361), (0, 182, 2)), ((13, 367), (1, 180, 3)), ((13, 371), (0, 179, 1)), ((13, 374), (0, 181, 2)), ((13, 377), (0, 178, 3)), ((13, 380), (0, 183, 3)), ((13, 383), (0, 160, 1)), ((13, 386), (0, 161, 0)), ((13, 389), (0, 185, 2)), ((13, 392), (0, 186, 2)), ((13, 395), (0, 187, 2)), ((13, 398), (0, 192, 4)), ((13, 402), (0, 189, 0))]
def k_T4 : a_Tb := [((13, 405), (0, 191, 0)), ((13, 408), (1, 195, 4)), ((13, 412), (0, 197, 3)), ((13, 417), (0, 194, 1)), ((13, 420), (0, 196, 2)), ((13, 423), (0, 198, 4)), ((13, 426), (0, 199, 5)), ((13, 430), (0, 203, 2)), ((13, 433), (1, 201, 1)), ((13, 436), (0, 202, 2)), ((14, 13), (1, 86, 3))]
def k_T : a_Tb := k_T0 ++ (k_T1 ++ (k_T2 ++ (k_T3 ++ (k_T4))))
def n_T0 : a_Tb := [((1, 13), (1, 10, 131)), ((1, 22), (4, 4, 311)), ((1, 29), (2, 9, 333)), ((1, 36), (6, 12, 389)), ((1, 49), (0, 16, 506)), ((1, 56), (5, 7, 508)), ((2, 9), (3, 3, 143)), ((3, 18), (0, 16, 137)), ((3, 25), (8, 5, 250)), ((4, 18), (3, 3, 339)), ((9, 46), (9, 12, 395)), ((9, 55), (7, 5, 443)), ((0, 7), (10, 12, 123)), ((0, 10), (11, 67, 1199))]
def n_T : a_Tb := n_T0
def d_T0 : a_Tb := [((1, 104), (0, 1, 935)), ((3, 148), (0, 1, 883)), ((3, 186), (0, 4, 912)), ((9, 77), (0, 4, 1054)), ((10, 32), (0, 0, 1096)), ((12, 86), (0, 4, 1006)), ((13, 182), (0, 3, 1205)), ((13, 289), (0, 1, 1481)), ((13, 337), (0, 4, 1583)), ((13, 411), (0, 2, 1664)), ((3, 68), (1, 1, 824)), ((3, 77), (1, 4, 891)), ((3, 82), (1, 5, 901)), ((3, 87), (1, 6, 907)), ((3, 93), (1, 7, 917)), ((3, 95), (1, 8, 918)), ((3, 149), (1, 2, 884)), ((3, 150), (1, 3, 885)), ((7, 9), (1, 0, 638))]
def d_T : a_Tb := d_T0
def l_T0 : a_Tb := [((1, 173), (0, 0, 1087)), ((13, 243), (0, 6, 1441)), ((13, 249), (0, 2, 1446)), ((13, 251), (0, 4, 1447)), ((13, 253), (0, 5, 1448)), ((13, 255), (0, 1, 1449)), ((13, 257), (0, 3, 1450)), ((13, 290), (0, 7, 1482)), ((13, 292), (0, 8, 1483)), ((13, 415), (0, 0, 1656))]
def l_T : a_Tb := l_T0
def i_V : List Int32 := [68680, 100000, 136552, 273104, 1000000]
def l_V : List Int64 := [-1, 6447474, 6647396, 1650553445, 1851878757, 1885432178, 2003792484, 495690081125, 504364296556]
def s_V : List (String × Nat × String) := [("MarkBench$Letters", 9, "aeiouAEIOU"), ("MarkBench$BookReader", 68, "word"), ("MarkBench$BookReader", 149, "since"), ("MarkBench$BookReader", 150, "until"), ("MarkBench$BookReader", 77, "end"), ("MarkBench$BookReader", 82, "name"), ("MarkBench$BookReader", 87, "pair"), ("MarkBench$BookReader", 93, "bar"), ("MarkBench$BookReader", 95, "bare")]
end
section
/-! THE ABSTRACT MACHINE: cells by number, values with numbers for addresses (a String constant k is '.float k', the script is '.float 1000'); a step, a run with fuel. -/
abbrev AC : Type := (FieldType × vp_A) ⊕ (Nat × List Value)
abbrev AH : Type := Nat × Nat × (Nat → AC)
abbrev AL : Type := List (Nat × Value)
abbrev AR : Type := Nat × Nat × Nat
abbrev AO : Type := (Nat × AL × List Value × AH) ⊕ (Option Value ⊕ (Nat × List Value × List Value))
def a_lk (t : a_Tb) (o i : Nat) : Option AR := (t.find? (fun e => e.1.1 == o && e.1.2 == i)).map (fun e => e.2)
theorem a_lk_mem {t : a_Tb} {o i : Nat} {r : AR} (h : a_lk t o i = some r) : ((o, i), r) ∈ t := by
  unfold a_lk at h
  cases hf : t.find? (fun e => e.1.1 == o && e.1.2 == i) with
  | none => rw [hf] at h; cases h
  | some e =>
    rw [hf] at h
    have h1 := List.find?_some hf
    have h2 := List.mem_of_find?_eq_some hf
    simp only [Bool.and_eq_true, beq_iff_eq] at h1
    have h3 : e.2 = r := Option.some.inj h
    have h4 : e = ((o, i), r) := by
      rw [← h3, ← h1.1, ← h1.2]
    rw [← h4]
    exact h2
def a_len : Instr → Nat
  | .bipush _ => 2
  | .ldc _ => 2
  | .iload _ => 2
  | .lload _ => 2
  | .aload _ => 2
  | .istore _ => 2
  | .lstore _ => 2
  | .astore _ => 2
  | .newarray _ => 2
  | .sipush _ => 3
  | .ldc_w _ => 3
  | .ldc2_w _ => 3
  | .iinc _ _ => 3
  | .ifCond _ _ => 3
  | .if_icmp _ _ => 3
  | .goto _ => 3
  | .getfield _ => 3
  | .putfield _ => 3
  | .invokevirtual _ => 3
  | .invokespecial _ => 3
  | .invokestatic _ => 3
  | .new _ => 3
  | .tableswitch _ _ _ _ => 0
  | .lookupswitch _ _ => 0
  | _ => 1
def a_res (mi : Nat) : Instr → Option AR
  | .getfield i => a_lk f_T (m_o mi) i
  | .putfield i => a_lk f_T (m_o mi) i
  | .new i => a_lk n_T (m_o mi) i
  | .ldc i => a_lk d_T (m_o mi) i
  | .ldc_w i => a_lk d_T (m_o mi) i
  | .ldc2_w i => a_lk l_T (m_o mi) i
  | .invokevirtual i => a_lk k_T (m_o mi) i
  | .invokespecial i => a_lk k_T (m_o mi) i
  | .invokestatic i => a_lk k_T (m_o mi) i
  | _ => some (0, 0, 0)
def a_ins (mi pc : Nat) : Option (Instr × AR) := match decode (m_b mi) pc with
  | .ok (i, n) => if a_len i = n ∨ a_len i = 0 then (a_res mi i).map (fun r => (i, r)) else none
  | _ => none
theorem a_ins_spec {mi pc : Nat} {i : Instr} {r : AR} (h : a_ins mi pc = some (i, r)) : ∃ n, decode (m_b mi) pc = .ok (i, n) ∧ (a_len i = n ∨ a_len i = 0) ∧ a_res mi i = some r := by
  unfold a_ins at h
  split at h
  · rename_i j n hd
    by_cases hn : a_len j = n ∨ a_len j = 0
    · rw [if_pos hn] at h
      cases hr : a_res mi j with
      | none => rw [hr] at h; cases h
      | some r' =>
        rw [hr] at h
        cases h
        exact ⟨n, hd, hn, hr⟩
    · rw [if_neg hn] at h
      cases h
  · cases h
def l_g : AL → Nat → Option Value
  | [], _ => none
  | q :: l, i => if q.1 = i then some q.2 else l_g l i
theorem l_g_mem : ∀ {l : AL} {i : Nat} {v : Value}, l_g l i = some v → (i, v) ∈ l
  | q :: l, i, v, h => by
    unfold l_g at h
    by_cases hq : q.1 = i
    · rw [if_pos hq] at h
      have h1 : q.2 = v := Option.some.inj h
      rw [← hq, ← h1]
      exact List.mem_cons_self
    · rw [if_neg hq] at h
      exact List.mem_cons_of_mem _ (l_g_mem h)
def l_s (l : AL) (i : Nat) (v : Value) : AL := (i, v) :: l.filter (fun q => !(q.1 == i) && !(q.1 + 1 == i && q.2.category == 2))
def l_s2 (l : AL) (i : Nat) (v : Value) : AL := (i, v) :: l.filter (fun q => !(q.1 == i) && (!(q.1 == i + 1) && !(q.1 + 1 == i && q.2.category == 2)))
def h_up (h : AH) (i : Nat) (c : AC) : AH := (h.1, h.2.1, va_up h.2.2 i c)
def h_ps (h : AH) (n : Nat) (c : AC) : AH := (h.1 + 1, h.2.1 + n, va_up h.2.2 h.1 c)
def a_nx (pc : Nat) (l : AL) (st : List Value) (h : AH) : Option AO := some (.inl (pc, l, st, h))
def a_go (pc : Nat) (off : Int) (l : AL) (st : List Value) (h : AH) : Option AO := if 0 ≤ (pc : Int) + off then some (.inl (((pc : Int) + off).toNat, l, st, h)) else none
def a_br (c : Prop) [Decidable c] (pc : Nat) (off : Int) (l : AL) (st : List Value) (h : AH) : Option AO := if c then a_go pc off l st h else a_nx (pc + 3) l st h
def a_if (c : ClassFile.Cond) (x : Int32) (pc : Nat) (off : Int) (l : AL) (st : List Value) (h : AH) : Option AO := match c with
  | .eq => a_br (x = 0) pc off l st h
  | .ne => a_br (¬ x = 0) pc off l st h
  | .lt => a_br (x < 0) pc off l st h
  | .ge => a_br (0 ≤ x) pc off l st h
  | .gt => a_br (0 < x) pc off l st h
  | .le => a_br (x ≤ 0) pc off l st h
def a_ic (c : ClassFile.Cond) (x y : Int32) (pc : Nat) (off : Int) (l : AL) (st : List Value) (h : AH) : Option AO := match c with
  | .eq => a_br (x = y) pc off l st h
  | .ne => a_br (¬ x = y) pc off l st h
  | .lt => a_br (x < y) pc off l st h
  | .ge => a_br (y ≤ x) pc off l st h
  | .gt => a_br (y < x) pc off l st h
  | .le => a_br (x ≤ y) pc off l st h
/-- an int array of a type: its length and contents -/
def h_ai (h : AH) (a : Nat) (t : FieldType) : Option (Nat × (Nat → Int32)) := if a < h.1 then (match h.2.2 a with
  | .inl (t', n, .inl f) => if t' = t then some (n, f) else none
  | _ => none) else none
def h_al (h : AH) (a : Nat) : Option (Nat × (Nat → Int64)) := if a < h.1 then (match h.2.2 a with
  | .inl (.long, n, .inr (.inl f)) => some (n, f)
  | _ => none) else none
def h_ob (h : AH) (a : Nat) : Option (Nat × List Value) := if a < h.1 then (match h.2.2 a with
  | .inr o => some o
  | _ => none) else none
def a_inb (i : Int32) (n : Nat) : Bool := !(decide (i < 0) || decide (n ≤ i.toNatClampNeg))
def a_ld (h : AH) (a : Nat) (t : FieldType) (i : Int32) : Option Int32 := match h_ai h a t with
  | some (n, f) => if a_inb i n = true then some (f i.toNatClampNeg) else none
  | none => none
def a_sv (h : AH) (a : Nat) (t : FieldType) (i x : Int32) : Option AH := match h_ai h a t with
  | some (n, f) => if a_inb i n = true then some (h_up h a (.inl (t, n, .inl (upd f i.toNatClampNeg x)))) else none
  | none => none
def a_def (t : FieldType) (n : Nat) : Option AC := match t with
  | .int => some (.inl (.int, n, .inl (fun _ => 0)))
  | .byte => some (.inl (.byte, n, .inl (fun _ => 0)))
  | .char => some (.inl (.char, n, .inl (fun _ => 0)))
  | .boolean => some (.inl (.boolean, n, .inl (fun _ => 0)))
  | .long => some (.inl (.long, n, .inr (.inl (fun _ => 0))))
  | _ => none
def a_sum (st : List Value) : Nat := (st.map fun v => v.category).sum
def a_rm (mi mj : Nat) : Bool := decide (m_f mj + 1 ≤ m_f mi) && decide (8 + (m_l mj + 11) + m_w mj ≤ m_w mi)
def a_nt (mi : Nat) : Bool := decide (1 ≤ m_f mi) && decide (21 ≤ m_w mi)
def a_cn (ci : Nat) : String := match c_R[ci]? with
  | some r => r.1
  | none => ""
/-- a call: kinds 0 virtual, 1 static, 2 and 3 constructors -/
def a_call (mi : Nat) (k mj n : Nat) (st : List Value) (h : AH) : Option AO :=
  if k = 1 then (if n ≤ st.length ∧ a_rm mi mj = true ∧ a_sum (st.drop n) ≤ 8 then some (.inr (.inr (mj, (st.take n).reverse, st.drop n))) else none)
  else if k = 0 then (match st.drop n with
    | .ref a :: rest => match h_ob h a with
      | some (ci, _) => if n ≤ st.length ∧ a_rm mi mj = true ∧ a_sum rest ≤ 8 ∧ a_cn ci = (m_y mj).cls then some (.inr (.inr (mj, .ref a :: (st.take n).reverse, rest))) else none
      | none => none
    | _ => none)
  else (match st.drop n with
    | .ref a :: rest => if n ≤ st.length ∧ a_rm mi mj = true ∧ a_sum rest ≤ 8 then some (.inr (.inr (mj, .ref a :: (st.take n).reverse, rest))) else none
    | _ => none)
end
section
/-- what String's own methods answer of the constants -/
def s_len (k : Nat) : Nat := match s_V[k]? with
  | some r => r.2.2.length
  | none => 0
def a_fk (v : Value) : Bool := match v with
  | .float _ => false
  | .double _ => false
  | .retAddr _ => false
  | _ => true
def a_nat (mi : Nat) (pc : Nat) (k : Nat) (l : AL) (st : List Value) (h : AH) : Option AO := match k, st with
  | 4, .ref _ :: rest => if a_nt mi = true ∧ a_sum rest ≤ 8 then a_nx (pc + 3) l rest h else none
  | 5, .int y :: .int x :: rest => if a_nt mi = true ∧ a_sum rest ≤ 8 then a_nx (pc + 3) l (.int (if y < x then y else x) :: rest) h else none
  | 6, .int y :: .int x :: rest => if a_nt mi = true ∧ a_sum rest ≤ 8 then a_nx (pc + 3) l (.int (if x < y then y else x) :: rest) h else none
  | 7, .int n :: .int dp :: .ref d :: .int sp :: .ref s :: rest => match h_ai h s .char, h_ai h d .char with
    | some (n0, f), some (n1, g) => if decide (40 ≤ m_w mi) = true ∧ a_nt mi = true ∧ a_sum rest ≤ 8 ∧ ¬ sp < 0 ∧ ¬ dp < 0 ∧ ¬ n < 0 ∧ sp.toNatClampNeg + n.toNatClampNeg ≤ n0 ∧ dp.toNatClampNeg + n.toNatClampNeg ≤ n1 ∧ (List.range n.toNatClampNeg).all (fun i => fits .char (.int (f (sp.toNatClampNeg + i)))) = true
        then a_nx (pc + 3) l rest (h_up h d (.inl (.char, n1, .inl (va_cpy f g sp.toNatClampNeg dp.toNatClampNeg n.toNatClampNeg)))) else none
    | _, _ => none
  | _, _ => none
def a_put (mi : Nat) (ci k : Nat) (v : Value) : Bool := match c_R[ci]? with
  | some (C, T, N, ty) => decide (k < N) && a_fk v && decide (narrow (ty k) v = v) && fits (ty k) v && (!(T k).2.2.2 || (decide ((T k).1 = o_N.getD (m_o mi) "") && decide ((m_y mi).name = "<init>")))
  | none => false
def a_new (ci : Nat) : Option (List Value) := match c_R[ci]? with
  | some (_, _, N, ty) => some ((List.range N).map (fun j => defaultValue (ty j)))
  | none => none
def a_st (L : Nat) (xs : Nat → Int32) (mi pc : Nat) (l : AL) (st : List Value) (h : AH) (i : Instr) (r : AR) : Option AO := match i, st with
  | .iconst v, st => a_nx (pc + 1) l (.int (Int32.ofInt v) :: st) h
  | .bipush v, st => a_nx (pc + 2) l (.int (Int8.ofInt v).toInt32 :: st) h
  | .sipush v, st => a_nx (pc + 3) l (.int (Int16.ofInt v).toInt32 :: st) h
  | .lconst v, st => a_nx (pc + 1) l (.long (Int64.ofNat (v : Nat)) :: st) h
  | .ldc _, st => if r.1 = 0 then a_nx (pc + 2) l (.int (i_V.getD r.2.1 0) :: st) h else a_nx (pc + 2) l (.float (UInt32.ofNat r.2.1) :: st) h
  | .ldc_w _, st => if r.1 = 0 then a_nx (pc + 3) l (.int (i_V.getD r.2.1 0) :: st) h else none
  | .ldc2_w _, st => a_nx (pc + 3) l (.long (l_V.getD r.2.1 0) :: st) h
  | .iload_n k, st => match l_g l k with
    | some (.int x) => a_nx (pc + 1) l (.int x :: st) h
    | _ => none
  | .iload k, st => match l_g l k with
    | some (.int x) => a_nx (pc + 2) l (.int x :: st) h
    | _ => none
  | .lload_n k, st => match l_g l k with
    | some (.long x) => a_nx (pc + 1) l (.long x :: st) h
    | _ => none
  | .lload k, st => match l_g l k with
    | some (.long x) => a_nx (pc + 2) l (.long x :: st) h
    | _ => none
  | .aload_n k, st => match l_g l k with
    | some (.ref x) => a_nx (pc + 1) l (.ref x :: st) h
    | some (.float x) => a_nx (pc + 1) l (.float x :: st) h
    | _ => none
  | .aload k, st => match l_g l k with
    | some (.ref x) => a_nx (pc + 2) l (.ref x :: st) h
    | some (.float x) => a_nx (pc + 2) l (.float x :: st) h
    | _ => none
  | .istore_n k, .int x :: st => if (k : Nat) < m_l mi then a_nx (pc + 1) (l_s l k (.int x)) st h else none
  | .istore k, .int x :: st => if k < m_l mi then a_nx (pc + 2) (l_s l k (.int x)) st h else none
  | .astore_n k, .ref x :: st => if (k : Nat) < m_l mi then a_nx (pc + 1) (l_s l k (.ref x)) st h else none
  | .astore k, .ref x :: st => if k < m_l mi then a_nx (pc + 2) (l_s l k (.ref x)) st h else none
  | .lstore_n k, .long x :: st => if (k : Nat) + 1 < m_l mi then a_nx (pc + 1) (l_s2 l k (.long x)) st h else none
  | .lstore k, .long x :: st => if k + 1 < m_l mi then a_nx (pc + 2) (l_s2 l k (.long x)) st h else none
  | .iinc k v, st => match l_g l k with
    | some (.int x) => if k < m_l mi then a_nx (pc + 3) (l_s l k (.int (x + Int32.ofInt v))) st h else none
    | _ => none
  | .iadd, .int y :: .int x :: st => a_nx (pc + 1) l (.int (x + y) :: st) h
  | .isub, .int y :: .int x :: st => a_nx (pc + 1) l (.int (x - y) :: st) h
  | .imul, .int y :: .int x :: st => a_nx (pc + 1) l (.int (x * y) :: st) h
  | .idiv, .int y :: .int x :: st => if y = 0 then none else a_nx (pc + 1) l (.int (x / y) :: st) h
  | .irem, .int y :: .int x :: st => if y = 0 then none else a_nx (pc + 1) l (.int (x - x / y * y) :: st) h
  | .iand, .int y :: .int x :: st => a_nx (pc + 1) l (.int (x &&& y) :: st) h
  | .ior, .int y :: .int x :: st => a_nx (pc + 1) l (.int (x ||| y) :: st) h
  | .ishl, .int y :: .int x :: st => a_nx (pc + 1) l (.int (x <<< (y &&& 31)) :: st) h
  | .ishr, .int y :: .int x :: st => a_nx (pc + 1) l (.int (x >>> (y &&& 31)) :: st) h
  | .iushr, .int y :: .int x :: st => a_nx (pc + 1) l (.int (x.toUInt32 >>> (y.toUInt32 &&& Int32.toUInt32 31)).toInt32 :: st) h
  | .ladd, .long y :: .long x :: st => a_nx (pc + 1) l (.long (x + y) :: st) h
  | .lor, .long y :: .long x :: st => a_nx (pc + 1) l (.long (x ||| y) :: st) h
  | .lshl, .int y :: .long x :: st => a_nx (pc + 1) l (.long (x <<< (y.toInt64 &&& 63)) :: st) h
  | .lcmp, .long y :: .long x :: st => a_nx (pc + 1) l (.int (lg_cmp x y) :: st) h
  | .i2l, .int x :: st => a_nx (pc + 1) l (.long x.toInt64 :: st) h
  | .i2c, .int x :: st => a_nx (pc + 1) l (.int (x.toUInt32 % 65536).toInt32 :: st) h
  | .i2b, .int x :: st => a_nx (pc + 1) l (.int x.toInt8.toInt32 :: st) h
  | .dup, v :: st => if v.category = 1 then a_nx (pc + 1) l (v :: v :: st) h else none
  | .pop, v :: st => if v.category = 1 then a_nx (pc + 1) l st h else none
  | .pop2, v :: st => if v.category = 2 then a_nx (pc + 1) l st h else none
  | .dup2, v :: w :: st => if v.category = 1 ∧ w.category = 1 then a_nx (pc + 1) l (v :: w :: v :: w :: st) h else none
  | .ifCond c off, .int x :: st => a_if c x pc off l st h
  | .if_icmp c off, .int y :: .int x :: st => a_ic c x y pc off l st h
  | .goto off, st => a_go pc off l st h
  | .tableswitch d lo hi offs, .int x :: st => if x.toInt < lo ∨ hi < x.toInt then a_go pc d l st h else (match offs[(x.toInt - lo).toNat]? with
    | some off => a_go pc off l st h
    | none => none)
  | .lookupswitch d ps, .int x :: st => if (ps.toList.zip (ps.toList.drop 1)).all (fun (a, next) => a.1 < next.1) = true then a_go pc (Op.lookupswitch.offset ps.toList d x.toInt) l st h else none
  | .arraylength, .ref a :: st => if a < h.1 then (match h.2.2 a with
    | .inl (_, n, _) => a_nx (pc + 1) l (.int (Int32.ofNat n) :: st) h
    | _ => none) else none
  | .arraylength, .float k :: st => if k = 1000 then a_nx (pc + 1) l (.int (Int32.ofNat L) :: st) h else none
  | .iaload, .int j :: .ref a :: st => match a_ld h a .int j with
    | some v => a_nx (pc + 1) l (.int v :: st) h
    | none => none
  | .iaload, .int j :: .float k :: st => if k = 1000 ∧ a_inb j L = true then a_nx (pc + 1) l (.int (xs j.toNatClampNeg) :: st) h else none
  | .caload, .int j :: .ref a :: st => match a_ld h a .char j with
    | some v => a_nx (pc + 1) l (.int v :: st) h
    | none => none
  | .baload, .int j :: .ref a :: st => match a_ld h a .byte j with
    | some v => a_nx (pc + 1) l (.int v :: st) h
    | none => match a_ld h a .boolean j with
      | some v => a_nx (pc + 1) l (.int v :: st) h
      | none => none
  | .laload, .int j :: .ref a :: st => match h_al h a with
    | some (n, f) => if a_inb j n = true then a_nx (pc + 1) l (.long (f j.toNatClampNeg) :: st) h else none
    | none => none
  | .iastore, .int x :: .int j :: .ref a :: st => match a_sv h a .int j x with
    | some h' => a_nx (pc + 1) l st h'
    | none => none
  | .castore, .int x :: .int j :: .ref a :: st => match a_sv h a .char j (vp_nar .char x) with
    | some h' => a_nx (pc + 1) l st h'
    | none => none
  | .bastore, .int x :: .int j :: .ref a :: st => match a_sv h a .byte j (vp_nar .byte x) with
    | some h' => a_nx (pc + 1) l st h'
    | none => match a_sv h a .boolean j (vp_nar .boolean x) with
      | some h' => a_nx (pc + 1) l st h'
      | none => none
  | .lastore, .long x :: .int j :: .ref a :: st => match h_al h a with
    | some (n, f) => if a_inb j n = true then a_nx (pc + 1) l st (h_up h a (.inl (.long, n, .inr (.inl (vp_updL f j.toNatClampNeg x))))) else none
    | none => none
  | .newarray t, .int n :: st => match a_def (newarray.typeOf t) n.toNatClampNeg with
    | some c => if ¬ n < 0 ∧ n.toNatClampNeg * 8 ≤ 536870912 then a_nx (pc + 2) l (.ref h.1 :: st) (h_ps h n.toNatClampNeg c) else none
    | none => none
  | .new _, st => match a_new r.1 with
    | some fs => a_nx (pc + 3) l (.ref h.1 :: st) (h_ps h r.2.1 (.inr (r.1, fs)))
    | none => none
  | .getfield _, .ref a :: st => match h_ob h a with
    | some (ci, fs) => if ci = r.1 then (match fs[r.2.1]? with
      | some v => a_nx (pc + 3) l (v :: st) h
      | none => none) else none
    | none => none
  | .putfield _, v :: .ref a :: st => match h_ob h a with
    | some (ci, fs) => if ci = r.1 ∧ r.2.1 < fs.length ∧ a_put mi ci r.2.1 v = true then a_nx (pc + 3) l st (h_up h a (.inr (ci, fs.set r.2.1 v))) else none
    | none => none
  | .invokevirtual _, st => if r.1 = 0 then a_call mi r.1 r.2.1 r.2.2 st h else none
  | .invokestatic _, st => if r.1 = 1 then a_call mi r.1 r.2.1 r.2.2 st h else if r.1 = 5 ∨ r.1 = 6 ∨ r.1 = 7 then a_nat mi pc r.1 l st h else none
  | .invokespecial _, st => if r.1 = 2 ∨ r.1 = 3 then a_call mi r.1 r.2.1 r.2.2 st h else if r.1 = 4 then a_nat mi pc r.1 l st h else none
  | .ireturn, [.int v] => match m_r mi with
    | some t => if narrow t (.int v) = .int v then some (.inr (.inl (some (.int v)))) else none
    | none => none
  | .lreturn, [.long v] => if m_r mi = some .long then some (.inr (.inl (some (.long v)))) else none
  | .return_, [] => if m_r mi = none then some (.inr (.inl none)) else none
  | _, _ => none
def a_run (L : Nat) (xs : Nat → Int32) : Nat → Nat → Nat → AL → List Value → AH → Option (Option Value × AH)
  | 0, _, _, _, _, _ => none
  | f + 1, mi, pc, l, st, h => match a_ins mi pc with
    | none => none
    | some (i, r) => match a_st L xs mi pc l st h i r with
      | none => none
      | some (.inl (pc', l', st', h')) => a_run L xs f mi pc' l' st' h'
      | some (.inr (.inl v)) => some (v, h)
      | some (.inr (.inr (mj, as, rest))) => match a_run L xs f mj 0 (lv_args 0 as) [] h with
        | none => none
        | some (v, h') => a_run L xs f mi (pc + 3) l (v.toList ++ rest) h'
end
