-- ===== PART A: goes FIRST, ahead of the names: the tables' words, and 'selects' of the private methods out of them =====
/-- a private method of a class that the tables say can be made, by its rows of tables_1 -/
def lw_okq (q : MethodName × Nat) : Prop := (q.1.cls ≠ "java/lang/invoke/MethodHandle" ∧ q.1.cls ≠ "java/lang/invoke/VarHandle") ∧ Cond.instantiable q.1.cls q.2 ∈ tables_1 ∧ Cond.privateMethod q.1 ∈ tables_1 ∧ Cond.instanceMethod q.1 ∈ tables_1
theorem lw_p0 : lw_okq (⟨"WindHarp", "found", "(I)I"⟩, 13) := ⟨⟨by decide +kernel, by decide +kernel⟩, List.mem_of_getElem? (i := 20) (by decide +kernel), List.mem_of_getElem? (i := 332) (by decide +kernel), List.mem_of_getElem? (i := 333) (by decide +kernel)⟩
theorem lw_p1 : lw_okq (⟨"WindHarp", "passed", "(I)I"⟩, 13) := ⟨⟨by decide +kernel, by decide +kernel⟩, List.mem_of_getElem? (i := 20) (by decide +kernel), List.mem_of_getElem? (i := 342) (by decide +kernel), List.mem_of_getElem? (i := 343) (by decide +kernel)⟩
theorem lw_p2 : lw_okq (⟨"WindHarp$Reader", "begin", "()V"⟩, 7) := ⟨⟨by decide +kernel, by decide +kernel⟩, List.mem_of_getElem? (i := 28) (by decide +kernel), List.mem_of_getElem? (i := 408) (by decide +kernel), List.mem_of_getElem? (i := 409) (by decide +kernel)⟩
theorem lw_p3 : lw_okq (⟨"WindHarp$Reader", "next", "()V"⟩, 7) := ⟨⟨by decide +kernel, by decide +kernel⟩, List.mem_of_getElem? (i := 28) (by decide +kernel), List.mem_of_getElem? (i := 412) (by decide +kernel), List.mem_of_getElem? (i := 413) (by decide +kernel)⟩
theorem lw_p4 : lw_okq (⟨"WindHarp$Reader", "byteAt", "(I)I"⟩, 7) := ⟨⟨by decide +kernel, by decide +kernel⟩, List.mem_of_getElem? (i := 28) (by decide +kernel), List.mem_of_getElem? (i := 416) (by decide +kernel), List.mem_of_getElem? (i := 417) (by decide +kernel)⟩
theorem lw_p5 : lw_okq (⟨"WindHarp$Reader", "isMore", "()Z"⟩, 7) := ⟨⟨by decide +kernel, by decide +kernel⟩, List.mem_of_getElem? (i := 28) (by decide +kernel), List.mem_of_getElem? (i := 429) (by decide +kernel), List.mem_of_getElem? (i := 430) (by decide +kernel)⟩
theorem lw_p6 : lw_okq (⟨"WindHarp$Reader", "readPart", "(LWindHarp$Wood;I)I"⟩, 7) := ⟨⟨by decide +kernel, by decide +kernel⟩, List.mem_of_getElem? (i := 28) (by decide +kernel), List.mem_of_getElem? (i := 433) (by decide +kernel), List.mem_of_getElem? (i := 434) (by decide +kernel)⟩
theorem lw_p7 : lw_okq (⟨"WindHarp$Reader", "isWord", "(Ljava/lang/String;)Z"⟩, 7) := ⟨⟨by decide +kernel, by decide +kernel⟩, List.mem_of_getElem? (i := 28) (by decide +kernel), List.mem_of_getElem? (i := 438) (by decide +kernel), List.mem_of_getElem? (i := 439) (by decide +kernel)⟩
theorem lw_p8 : lw_okq (⟨"WindHarp$Reader", "readTree", "(LWindHarp$Trees;)V"⟩, 7) := ⟨⟨by decide +kernel, by decide +kernel⟩, List.mem_of_getElem? (i := 28) (by decide +kernel), List.mem_of_getElem? (i := 490) (by decide +kernel), List.mem_of_getElem? (i := 491) (by decide +kernel)⟩
theorem lw_p9 : lw_okq (⟨"WindHarp$Reader", "fail", "(I)V"⟩, 7) := ⟨⟨by decide +kernel, by decide +kernel⟩, List.mem_of_getElem? (i := 28) (by decide +kernel), List.mem_of_getElem? (i := 494) (by decide +kernel), List.mem_of_getElem? (i := 495) (by decide +kernel)⟩
theorem lw_p10 : lw_okq (⟨"WindHarp$Reader", "takeNumber", "(II)I"⟩, 7) := ⟨⟨by decide +kernel, by decide +kernel⟩, List.mem_of_getElem? (i := 28) (by decide +kernel), List.mem_of_getElem? (i := 498) (by decide +kernel), List.mem_of_getElem? (i := 499) (by decide +kernel)⟩
theorem lw_p11 : lw_okq (⟨"WindHarp$Reader", "takeSign", "()V"⟩, 7) := ⟨⟨by decide +kernel, by decide +kernel⟩, List.mem_of_getElem? (i := 28) (by decide +kernel), List.mem_of_getElem? (i := 502) (by decide +kernel), List.mem_of_getElem? (i := 503) (by decide +kernel)⟩
theorem lw_p12 : lw_okq (⟨"WindHarp$Reader", "readWind", "(LWindHarp$Winds;)V"⟩, 7) := ⟨⟨by decide +kernel, by decide +kernel⟩, List.mem_of_getElem? (i := 28) (by decide +kernel), List.mem_of_getElem? (i := 511) (by decide +kernel), List.mem_of_getElem? (i := 512) (by decide +kernel)⟩
theorem lw_p13 : lw_okq (⟨"WindHarp$Reader", "readTune", "(LWindHarp$Wood;)V"⟩, 7) := ⟨⟨by decide +kernel, by decide +kernel⟩, List.mem_of_getElem? (i := 28) (by decide +kernel), List.mem_of_getElem? (i := 520) (by decide +kernel), List.mem_of_getElem? (i := 521) (by decide +kernel)⟩
theorem lw_p14 : lw_okq (⟨"WindHarp", "faulted", "()I"⟩, 13) := ⟨⟨by decide +kernel, by decide +kernel⟩, List.mem_of_getElem? (i := 20) (by decide +kernel), List.mem_of_getElem? (i := 528) (by decide +kernel), List.mem_of_getElem? (i := 529) (by decide +kernel)⟩
theorem lw_p15 : lw_okq (⟨"WindHarp$Reader", "readOrder", "(LWindHarp$Deeds;I)V"⟩, 7) := ⟨⟨by decide +kernel, by decide +kernel⟩, List.mem_of_getElem? (i := 28) (by decide +kernel), List.mem_of_getElem? (i := 562) (by decide +kernel), List.mem_of_getElem? (i := 563) (by decide +kernel)⟩
def lw_privs_1 : List (MethodName × Nat) := [(⟨"WindHarp", "found", "(I)I"⟩, 13), (⟨"WindHarp", "passed", "(I)I"⟩, 13), (⟨"WindHarp$Reader", "begin", "()V"⟩, 7), (⟨"WindHarp$Reader", "next", "()V"⟩, 7), (⟨"WindHarp$Reader", "byteAt", "(I)I"⟩, 7), (⟨"WindHarp$Reader", "isMore", "()Z"⟩, 7), (⟨"WindHarp$Reader", "readPart", "(LWindHarp$Wood;I)I"⟩, 7), (⟨"WindHarp$Reader", "isWord", "(Ljava/lang/String;)Z"⟩, 7), (⟨"WindHarp$Reader", "readTree", "(LWindHarp$Trees;)V"⟩, 7), (⟨"WindHarp$Reader", "fail", "(I)V"⟩, 7), (⟨"WindHarp$Reader", "takeNumber", "(II)I"⟩, 7), (⟨"WindHarp$Reader", "takeSign", "()V"⟩, 7), (⟨"WindHarp$Reader", "readWind", "(LWindHarp$Winds;)V"⟩, 7), (⟨"WindHarp$Reader", "readTune", "(LWindHarp$Wood;)V"⟩, 7), (⟨"WindHarp", "faulted", "()I"⟩, 13), (⟨"WindHarp$Reader", "readOrder", "(LWindHarp$Deeds;I)V"⟩, 7)]
theorem lw_r1 : ∀ q ∈ lw_privs_1, lw_okq q := List.forall_mem_cons.mpr ⟨lw_p0, List.forall_mem_cons.mpr ⟨lw_p1, List.forall_mem_cons.mpr ⟨lw_p2, List.forall_mem_cons.mpr ⟨lw_p3, List.forall_mem_cons.mpr ⟨lw_p4, List.forall_mem_cons.mpr ⟨lw_p5, List.forall_mem_cons.mpr ⟨lw_p6, List.forall_mem_cons.mpr ⟨lw_p7, List.forall_mem_cons.mpr ⟨lw_p8, List.forall_mem_cons.mpr ⟨lw_p9, List.forall_mem_cons.mpr ⟨lw_p10, List.forall_mem_cons.mpr ⟨lw_p11, List.forall_mem_cons.mpr ⟨lw_p12, List.forall_mem_cons.mpr ⟨lw_p13, List.forall_mem_cons.mpr ⟨lw_p14, List.forall_mem_cons.mpr ⟨lw_p15, fun _ h => absurd h List.not_mem_nil⟩⟩⟩⟩⟩⟩⟩⟩⟩⟩⟩⟩⟩⟩⟩⟩
theorem lw_p16 : lw_okq (⟨"WindHarp$Reader", "orderHere", "()I"⟩, 7) := ⟨⟨by decide +kernel, by decide +kernel⟩, List.mem_of_getElem? (i := 28) (by decide +kernel), List.mem_of_getElem? (i := 566) (by decide +kernel), List.mem_of_getElem? (i := 567) (by decide +kernel)⟩
theorem lw_p17 : lw_okq (⟨"WindHarp$Wood", "carryOut", "(III)V"⟩, 8) := ⟨⟨by decide +kernel, by decide +kernel⟩, List.mem_of_getElem? (i := 81) (by decide +kernel), List.mem_of_getElem? (i := 589) (by decide +kernel), List.mem_of_getElem? (i := 590) (by decide +kernel)⟩
theorem lw_p18 : lw_okq (⟨"WindHarp", "slipsIn", "(LWindHarp$Wood;II)I"⟩, 13) := ⟨⟨by decide +kernel, by decide +kernel⟩, List.mem_of_getElem? (i := 20) (by decide +kernel), List.mem_of_getElem? (i := 678) (by decide +kernel), List.mem_of_getElem? (i := 679) (by decide +kernel)⟩
theorem lw_p19 : lw_okq (⟨"WindHarp", "cheapestSteps", "(IIIII)I"⟩, 13) := ⟨⟨by decide +kernel, by decide +kernel⟩, List.mem_of_getElem? (i := 20) (by decide +kernel), List.mem_of_getElem? (i := 700) (by decide +kernel), List.mem_of_getElem? (i := 701) (by decide +kernel)⟩
theorem lw_p20 : lw_okq (⟨"WindHarp", "bestOfSum", "(IIIIII)I"⟩, 13) := ⟨⟨by decide +kernel, by decide +kernel⟩, List.mem_of_getElem? (i := 20) (by decide +kernel), List.mem_of_getElem? (i := 708) (by decide +kernel), List.mem_of_getElem? (i := 709) (by decide +kernel)⟩
theorem lw_p21 : lw_okq (⟨"WindHarp$Ear", "isLeftBy", "(I[II)Z"⟩, 4) := ⟨⟨by decide +kernel, by decide +kernel⟩, List.mem_of_getElem? (i := 221) (by decide +kernel), List.mem_of_getElem? (i := 770) (by decide +kernel), List.mem_of_getElem? (i := 771) (by decide +kernel)⟩
theorem lw_p22 : lw_okq (⟨"WindHarp", "imageAt", "(I)LWindHarp$Wood;"⟩, 13) := ⟨⟨by decide +kernel, by decide +kernel⟩, List.mem_of_getElem? (i := 20) (by decide +kernel), List.mem_of_getElem? (i := 789) (by decide +kernel), List.mem_of_getElem? (i := 790) (by decide +kernel)⟩
theorem lw_p23 : lw_okq (⟨"WindHarp", "kindIn", "(II)I"⟩, 13) := ⟨⟨by decide +kernel, by decide +kernel⟩, List.mem_of_getElem? (i := 20) (by decide +kernel), List.mem_of_getElem? (i := 801) (by decide +kernel), List.mem_of_getElem? (i := 802) (by decide +kernel)⟩
theorem lw_p24 : lw_okq (⟨"WindHarp$Asks", "body11", "()I"⟩, 6) := ⟨⟨by decide +kernel, by decide +kernel⟩, List.mem_of_getElem? (i := 257) (by decide +kernel), List.mem_of_getElem? (i := 825) (by decide +kernel), List.mem_of_getElem? (i := 826) (by decide +kernel)⟩
theorem lw_p25 : lw_okq (⟨"WindHarp$Asks", "leave", "(I)V"⟩, 6) := ⟨⟨by decide +kernel, by decide +kernel⟩, List.mem_of_getElem? (i := 257) (by decide +kernel), List.mem_of_getElem? (i := 829) (by decide +kernel), List.mem_of_getElem? (i := 830) (by decide +kernel)⟩
theorem lw_p26 : lw_okq (⟨"WindHarp$Asks", "body10", "()I"⟩, 6) := ⟨⟨by decide +kernel, by decide +kernel⟩, List.mem_of_getElem? (i := 257) (by decide +kernel), List.mem_of_getElem? (i := 833) (by decide +kernel), List.mem_of_getElem? (i := 834) (by decide +kernel)⟩
theorem lw_p27 : lw_okq (⟨"WindHarp$Asks", "body21", "()I"⟩, 6) := ⟨⟨by decide +kernel, by decide +kernel⟩, List.mem_of_getElem? (i := 257) (by decide +kernel), List.mem_of_getElem? (i := 837) (by decide +kernel), List.mem_of_getElem? (i := 838) (by decide +kernel)⟩
theorem lw_p28 : lw_okq (⟨"WindHarp$Asks", "body20", "()I"⟩, 6) := ⟨⟨by decide +kernel, by decide +kernel⟩, List.mem_of_getElem? (i := 257) (by decide +kernel), List.mem_of_getElem? (i := 841) (by decide +kernel), List.mem_of_getElem? (i := 842) (by decide +kernel)⟩
theorem lw_p29 : lw_okq (⟨"WindHarp$Asks", "body12", "()I"⟩, 6) := ⟨⟨by decide +kernel, by decide +kernel⟩, List.mem_of_getElem? (i := 257) (by decide +kernel), List.mem_of_getElem? (i := 845) (by decide +kernel), List.mem_of_getElem? (i := 846) (by decide +kernel)⟩
theorem lw_p30 : lw_okq (⟨"WindHarp$Asks", "body13", "()I"⟩, 6) := ⟨⟨by decide +kernel, by decide +kernel⟩, List.mem_of_getElem? (i := 257) (by decide +kernel), List.mem_of_getElem? (i := 849) (by decide +kernel), List.mem_of_getElem? (i := 850) (by decide +kernel)⟩
theorem lw_p31 : lw_okq (⟨"WindHarp$Asks", "body14", "()I"⟩, 6) := ⟨⟨by decide +kernel, by decide +kernel⟩, List.mem_of_getElem? (i := 257) (by decide +kernel), List.mem_of_getElem? (i := 853) (by decide +kernel), List.mem_of_getElem? (i := 854) (by decide +kernel)⟩
def lw_privs_2 : List (MethodName × Nat) := [(⟨"WindHarp$Reader", "orderHere", "()I"⟩, 7), (⟨"WindHarp$Wood", "carryOut", "(III)V"⟩, 8), (⟨"WindHarp", "slipsIn", "(LWindHarp$Wood;II)I"⟩, 13), (⟨"WindHarp", "cheapestSteps", "(IIIII)I"⟩, 13), (⟨"WindHarp", "bestOfSum", "(IIIIII)I"⟩, 13), (⟨"WindHarp$Ear", "isLeftBy", "(I[II)Z"⟩, 4), (⟨"WindHarp", "imageAt", "(I)LWindHarp$Wood;"⟩, 13), (⟨"WindHarp", "kindIn", "(II)I"⟩, 13), (⟨"WindHarp$Asks", "body11", "()I"⟩, 6), (⟨"WindHarp$Asks", "leave", "(I)V"⟩, 6), (⟨"WindHarp$Asks", "body10", "()I"⟩, 6), (⟨"WindHarp$Asks", "body21", "()I"⟩, 6), (⟨"WindHarp$Asks", "body20", "()I"⟩, 6), (⟨"WindHarp$Asks", "body12", "()I"⟩, 6), (⟨"WindHarp$Asks", "body13", "()I"⟩, 6), (⟨"WindHarp$Asks", "body14", "()I"⟩, 6)]
theorem lw_r2 : ∀ q ∈ lw_privs_2, lw_okq q := List.forall_mem_cons.mpr ⟨lw_p16, List.forall_mem_cons.mpr ⟨lw_p17, List.forall_mem_cons.mpr ⟨lw_p18, List.forall_mem_cons.mpr ⟨lw_p19, List.forall_mem_cons.mpr ⟨lw_p20, List.forall_mem_cons.mpr ⟨lw_p21, List.forall_mem_cons.mpr ⟨lw_p22, List.forall_mem_cons.mpr ⟨lw_p23, List.forall_mem_cons.mpr ⟨lw_p24, List.forall_mem_cons.mpr ⟨lw_p25, List.forall_mem_cons.mpr ⟨lw_p26, List.forall_mem_cons.mpr ⟨lw_p27, List.forall_mem_cons.mpr ⟨lw_p28, List.forall_mem_cons.mpr ⟨lw_p29, List.forall_mem_cons.mpr ⟨lw_p30, List.forall_mem_cons.mpr ⟨lw_p31, fun _ h => absurd h List.not_mem_nil⟩⟩⟩⟩⟩⟩⟩⟩⟩⟩⟩⟩⟩⟩⟩⟩
theorem lw_p32 : lw_okq (⟨"WindHarp$Asks", "body22", "()I"⟩, 6) := ⟨⟨by decide +kernel, by decide +kernel⟩, List.mem_of_getElem? (i := 257) (by decide +kernel), List.mem_of_getElem? (i := 861) (by decide +kernel), List.mem_of_getElem? (i := 862) (by decide +kernel)⟩
theorem lw_p33 : lw_okq (⟨"WindHarp$Asks", "body23", "()I"⟩, 6) := ⟨⟨by decide +kernel, by decide +kernel⟩, List.mem_of_getElem? (i := 257) (by decide +kernel), List.mem_of_getElem? (i := 865) (by decide +kernel), List.mem_of_getElem? (i := 866) (by decide +kernel)⟩
theorem lw_p34 : lw_okq (⟨"WindHarp$Asks", "body24", "()I"⟩, 6) := ⟨⟨by decide +kernel, by decide +kernel⟩, List.mem_of_getElem? (i := 257) (by decide +kernel), List.mem_of_getElem? (i := 869) (by decide +kernel), List.mem_of_getElem? (i := 870) (by decide +kernel)⟩
theorem lw_p35 : lw_okq (⟨"WindHarpModel", "finding", "(I)I"⟩, 35) := ⟨⟨by decide +kernel, by decide +kernel⟩, List.mem_of_getElem? (i := 889) (by decide +kernel), List.mem_of_getElem? (i := 1014) (by decide +kernel), List.mem_of_getElem? (i := 1015) (by decide +kernel)⟩
theorem lw_p36 : lw_okq (⟨"WindHarpModel", "begin", "()V"⟩, 35) := ⟨⟨by decide +kernel, by decide +kernel⟩, List.mem_of_getElem? (i := 889) (by decide +kernel), List.mem_of_getElem? (i := 1042) (by decide +kernel), List.mem_of_getElem? (i := 1043) (by decide +kernel)⟩
theorem lw_p37 : lw_okq (⟨"WindHarpModel", "next", "()V"⟩, 35) := ⟨⟨by decide +kernel, by decide +kernel⟩, List.mem_of_getElem? (i := 889) (by decide +kernel), List.mem_of_getElem? (i := 1046) (by decide +kernel), List.mem_of_getElem? (i := 1047) (by decide +kernel)⟩
theorem lw_p38 : lw_okq (⟨"WindHarpModel", "byteAt", "(I)I"⟩, 35) := ⟨⟨by decide +kernel, by decide +kernel⟩, List.mem_of_getElem? (i := 889) (by decide +kernel), List.mem_of_getElem? (i := 1050) (by decide +kernel), List.mem_of_getElem? (i := 1051) (by decide +kernel)⟩
theorem lw_p39 : lw_okq (⟨"WindHarpModel", "name", "()J"⟩, 35) := ⟨⟨by decide +kernel, by decide +kernel⟩, List.mem_of_getElem? (i := 889) (by decide +kernel), List.mem_of_getElem? (i := 1061) (by decide +kernel), List.mem_of_getElem? (i := 1062) (by decide +kernel)⟩
theorem lw_p40 : lw_okq (⟨"WindHarpModel", "bad", "(I)V"⟩, 35) := ⟨⟨by decide +kernel, by decide +kernel⟩, List.mem_of_getElem? (i := 889) (by decide +kernel), List.mem_of_getElem? (i := 1066) (by decide +kernel), List.mem_of_getElem? (i := 1067) (by decide +kernel)⟩
theorem lw_p41 : lw_okq (⟨"WindHarpModel", "readTree", "()V"⟩, 35) := ⟨⟨by decide +kernel, by decide +kernel⟩, List.mem_of_getElem? (i := 889) (by decide +kernel), List.mem_of_getElem? (i := 1070) (by decide +kernel), List.mem_of_getElem? (i := 1071) (by decide +kernel)⟩
theorem lw_p42 : lw_okq (⟨"WindHarpModel", "begins", "(II)V"⟩, 35) := ⟨⟨by decide +kernel, by decide +kernel⟩, List.mem_of_getElem? (i := 889) (by decide +kernel), List.mem_of_getElem? (i := 1074) (by decide +kernel), List.mem_of_getElem? (i := 1075) (by decide +kernel)⟩
theorem lw_p43 : lw_okq (⟨"WindHarpModel", "must", "(Z)V"⟩, 35) := ⟨⟨by decide +kernel, by decide +kernel⟩, List.mem_of_getElem? (i := 889) (by decide +kernel), List.mem_of_getElem? (i := 1078) (by decide +kernel), List.mem_of_getElem? (i := 1079) (by decide +kernel)⟩
theorem lw_p44 : lw_okq (⟨"WindHarpModel", "number", "(II)I"⟩, 35) := ⟨⟨by decide +kernel, by decide +kernel⟩, List.mem_of_getElem? (i := 889) (by decide +kernel), List.mem_of_getElem? (i := 1082) (by decide +kernel), List.mem_of_getElem? (i := 1083) (by decide +kernel)⟩
theorem lw_p45 : lw_okq (⟨"WindHarpModel", "figures", "()I"⟩, 35) := ⟨⟨by decide +kernel, by decide +kernel⟩, List.mem_of_getElem? (i := 889) (by decide +kernel), List.mem_of_getElem? (i := 1086) (by decide +kernel), List.mem_of_getElem? (i := 1087) (by decide +kernel)⟩
theorem lw_p46 : lw_okq (⟨"WindHarpModel", "mustEnd", "()V"⟩, 35) := ⟨⟨by decide +kernel, by decide +kernel⟩, List.mem_of_getElem? (i := 889) (by decide +kernel), List.mem_of_getElem? (i := 1090) (by decide +kernel), List.mem_of_getElem? (i := 1091) (by decide +kernel)⟩
theorem lw_p47 : lw_okq (⟨"WindHarpModel", "readWind", "()V"⟩, 35) := ⟨⟨by decide +kernel, by decide +kernel⟩, List.mem_of_getElem? (i := 889) (by decide +kernel), List.mem_of_getElem? (i := 1095) (by decide +kernel), List.mem_of_getElem? (i := 1096) (by decide +kernel)⟩
def lw_privs_3 : List (MethodName × Nat) := [(⟨"WindHarp$Asks", "body22", "()I"⟩, 6), (⟨"WindHarp$Asks", "body23", "()I"⟩, 6), (⟨"WindHarp$Asks", "body24", "()I"⟩, 6), (⟨"WindHarpModel", "finding", "(I)I"⟩, 35), (⟨"WindHarpModel", "begin", "()V"⟩, 35), (⟨"WindHarpModel", "next", "()V"⟩, 35), (⟨"WindHarpModel", "byteAt", "(I)I"⟩, 35), (⟨"WindHarpModel", "name", "()J"⟩, 35), (⟨"WindHarpModel", "bad", "(I)V"⟩, 35), (⟨"WindHarpModel", "readTree", "()V"⟩, 35), (⟨"WindHarpModel", "begins", "(II)V"⟩, 35), (⟨"WindHarpModel", "must", "(Z)V"⟩, 35), (⟨"WindHarpModel", "number", "(II)I"⟩, 35), (⟨"WindHarpModel", "figures", "()I"⟩, 35), (⟨"WindHarpModel", "mustEnd", "()V"⟩, 35), (⟨"WindHarpModel", "readWind", "()V"⟩, 35)]
theorem lw_r3 : ∀ q ∈ lw_privs_3, lw_okq q := List.forall_mem_cons.mpr ⟨lw_p32, List.forall_mem_cons.mpr ⟨lw_p33, List.forall_mem_cons.mpr ⟨lw_p34, List.forall_mem_cons.mpr ⟨lw_p35, List.forall_mem_cons.mpr ⟨lw_p36, List.forall_mem_cons.mpr ⟨lw_p37, List.forall_mem_cons.mpr ⟨lw_p38, List.forall_mem_cons.mpr ⟨lw_p39, List.forall_mem_cons.mpr ⟨lw_p40, List.forall_mem_cons.mpr ⟨lw_p41, List.forall_mem_cons.mpr ⟨lw_p42, List.forall_mem_cons.mpr ⟨lw_p43, List.forall_mem_cons.mpr ⟨lw_p44, List.forall_mem_cons.mpr ⟨lw_p45, List.forall_mem_cons.mpr ⟨lw_p46, List.forall_mem_cons.mpr ⟨lw_p47, fun _ h => absurd h List.not_mem_nil⟩⟩⟩⟩⟩⟩⟩⟩⟩⟩⟩⟩⟩⟩⟩⟩
theorem lw_p48 : lw_okq (⟨"WindHarpModel", "readTune", "()V"⟩, 35) := ⟨⟨by decide +kernel, by decide +kernel⟩, List.mem_of_getElem? (i := 889) (by decide +kernel), List.mem_of_getElem? (i := 1100) (by decide +kernel), List.mem_of_getElem? (i := 1101) (by decide +kernel)⟩
theorem lw_p49 : lw_okq (⟨"WindHarpModel", "readTone", "()V"⟩, 35) := ⟨⟨by decide +kernel, by decide +kernel⟩, List.mem_of_getElem? (i := 889) (by decide +kernel), List.mem_of_getElem? (i := 1104) (by decide +kernel), List.mem_of_getElem? (i := 1105) (by decide +kernel)⟩
theorem lw_p50 : lw_okq (⟨"WindHarpModel", "ends", "(I)I"⟩, 35) := ⟨⟨by decide +kernel, by decide +kernel⟩, List.mem_of_getElem? (i := 889) (by decide +kernel), List.mem_of_getElem? (i := 1109) (by decide +kernel), List.mem_of_getElem? (i := 1110) (by decide +kernel)⟩
theorem lw_p51 : lw_okq (⟨"WindHarpModel", "readOrder", "()V"⟩, 35) := ⟨⟨by decide +kernel, by decide +kernel⟩, List.mem_of_getElem? (i := 889) (by decide +kernel), List.mem_of_getElem? (i := 1130) (by decide +kernel), List.mem_of_getElem? (i := 1131) (by decide +kernel)⟩
theorem lw_p52 : lw_okq (⟨"WindHarpModel", "does", "(III)V"⟩, 35) := ⟨⟨by decide +kernel, by decide +kernel⟩, List.mem_of_getElem? (i := 889) (by decide +kernel), List.mem_of_getElem? (i := 1134) (by decide +kernel), List.mem_of_getElem? (i := 1135) (by decide +kernel)⟩
theorem lw_p53 : lw_okq (⟨"WindHarpModel", "lengthOf", "(I)I"⟩, 35) := ⟨⟨by decide +kernel, by decide +kernel⟩, List.mem_of_getElem? (i := 889) (by decide +kernel), List.mem_of_getElem? (i := 1138) (by decide +kernel), List.mem_of_getElem? (i := 1139) (by decide +kernel)⟩
theorem lw_p54 : lw_okq (⟨"WindHarpModel", "layLengths", "()V"⟩, 35) := ⟨⟨by decide +kernel, by decide +kernel⟩, List.mem_of_getElem? (i := 889) (by decide +kernel), List.mem_of_getElem? (i := 1155) (by decide +kernel), List.mem_of_getElem? (i := 1156) (by decide +kernel)⟩
theorem lw_p55 : lw_okq (⟨"WindHarpModel", "of", "(II)I"⟩, 35) := ⟨⟨by decide +kernel, by decide +kernel⟩, List.mem_of_getElem? (i := 889) (by decide +kernel), List.mem_of_getElem? (i := 1159) (by decide +kernel), List.mem_of_getElem? (i := 1160) (by decide +kernel)⟩
theorem lw_p56 : lw_okq (⟨"WindHarpModel", "grow", "()V"⟩, 35) := ⟨⟨by decide +kernel, by decide +kernel⟩, List.mem_of_getElem? (i := 889) (by decide +kernel), List.mem_of_getElem? (i := 1163) (by decide +kernel), List.mem_of_getElem? (i := 1164) (by decide +kernel)⟩
theorem lw_p57 : lw_okq (⟨"WindHarpModel", "isTree", "(I)Z"⟩, 35) := ⟨⟨by decide +kernel, by decide +kernel⟩, List.mem_of_getElem? (i := 889) (by decide +kernel), List.mem_of_getElem? (i := 1171) (by decide +kernel), List.mem_of_getElem? (i := 1172) (by decide +kernel)⟩
theorem lw_p58 : lw_okq (⟨"WindHarpModel", "tone", "(I)I"⟩, 35) := ⟨⟨by decide +kernel, by decide +kernel⟩, List.mem_of_getElem? (i := 889) (by decide +kernel), List.mem_of_getElem? (i := 1176) (by decide +kernel), List.mem_of_getElem? (i := 1177) (by decide +kernel)⟩
theorem lw_p59 : lw_okq (⟨"WindHarpModel", "isWind", "(I)Z"⟩, 35) := ⟨⟨by decide +kernel, by decide +kernel⟩, List.mem_of_getElem? (i := 889) (by decide +kernel), List.mem_of_getElem? (i := 1184) (by decide +kernel), List.mem_of_getElem? (i := 1185) (by decide +kernel)⟩
theorem lw_p60 : lw_okq (⟨"WindHarpModel", "listen", "(I)V"⟩, 35) := ⟨⟨by decide +kernel, by decide +kernel⟩, List.mem_of_getElem? (i := 889) (by decide +kernel), List.mem_of_getElem? (i := 1188) (by decide +kernel), List.mem_of_getElem? (i := 1189) (by decide +kernel)⟩
theorem lw_p61 : lw_okq (⟨"WindHarpModel", "sounds", "(II)Z"⟩, 35) := ⟨⟨by decide +kernel, by decide +kernel⟩, List.mem_of_getElem? (i := 889) (by decide +kernel), List.mem_of_getElem? (i := 1192) (by decide +kernel), List.mem_of_getElem? (i := 1193) (by decide +kernel)⟩
theorem lw_p62 : lw_okq (⟨"WindHarpModel", "slipsIn", "(II)I"⟩, 35) := ⟨⟨by decide +kernel, by decide +kernel⟩, List.mem_of_getElem? (i := 889) (by decide +kernel), List.mem_of_getElem? (i := 1204) (by decide +kernel), List.mem_of_getElem? (i := 1205) (by decide +kernel)⟩
theorem lw_p63 : lw_okq (⟨"WindHarpModel", "slipsNow", "(I)I"⟩, 35) := ⟨⟨by decide +kernel, by decide +kernel⟩, List.mem_of_getElem? (i := 889) (by decide +kernel), List.mem_of_getElem? (i := 1208) (by decide +kernel), List.mem_of_getElem? (i := 1209) (by decide +kernel)⟩
def lw_privs_4 : List (MethodName × Nat) := [(⟨"WindHarpModel", "readTune", "()V"⟩, 35), (⟨"WindHarpModel", "readTone", "()V"⟩, 35), (⟨"WindHarpModel", "ends", "(I)I"⟩, 35), (⟨"WindHarpModel", "readOrder", "()V"⟩, 35), (⟨"WindHarpModel", "does", "(III)V"⟩, 35), (⟨"WindHarpModel", "lengthOf", "(I)I"⟩, 35), (⟨"WindHarpModel", "layLengths", "()V"⟩, 35), (⟨"WindHarpModel", "of", "(II)I"⟩, 35), (⟨"WindHarpModel", "grow", "()V"⟩, 35), (⟨"WindHarpModel", "isTree", "(I)Z"⟩, 35), (⟨"WindHarpModel", "tone", "(I)I"⟩, 35), (⟨"WindHarpModel", "isWind", "(I)Z"⟩, 35), (⟨"WindHarpModel", "listen", "(I)V"⟩, 35), (⟨"WindHarpModel", "sounds", "(II)Z"⟩, 35), (⟨"WindHarpModel", "slipsIn", "(II)I"⟩, 35), (⟨"WindHarpModel", "slipsNow", "(I)I"⟩, 35)]
theorem lw_r4 : ∀ q ∈ lw_privs_4, lw_okq q := List.forall_mem_cons.mpr ⟨lw_p48, List.forall_mem_cons.mpr ⟨lw_p49, List.forall_mem_cons.mpr ⟨lw_p50, List.forall_mem_cons.mpr ⟨lw_p51, List.forall_mem_cons.mpr ⟨lw_p52, List.forall_mem_cons.mpr ⟨lw_p53, List.forall_mem_cons.mpr ⟨lw_p54, List.forall_mem_cons.mpr ⟨lw_p55, List.forall_mem_cons.mpr ⟨lw_p56, List.forall_mem_cons.mpr ⟨lw_p57, List.forall_mem_cons.mpr ⟨lw_p58, List.forall_mem_cons.mpr ⟨lw_p59, List.forall_mem_cons.mpr ⟨lw_p60, List.forall_mem_cons.mpr ⟨lw_p61, List.forall_mem_cons.mpr ⟨lw_p62, List.forall_mem_cons.mpr ⟨lw_p63, fun _ h => absurd h List.not_mem_nil⟩⟩⟩⟩⟩⟩⟩⟩⟩⟩⟩⟩⟩⟩⟩⟩
theorem lw_p64 : lw_okq (⟨"WindHarpModel", "layCuts", "(II)Z"⟩, 35) := ⟨⟨by decide +kernel, by decide +kernel⟩, List.mem_of_getElem? (i := 889) (by decide +kernel), List.mem_of_getElem? (i := 1226) (by decide +kernel), List.mem_of_getElem? (i := 1227) (by decide +kernel)⟩
theorem lw_p65 : lw_okq (⟨"WindHarpModel", "buzzNow", "()I"⟩, 35) := ⟨⟨by decide +kernel, by decide +kernel⟩, List.mem_of_getElem? (i := 889) (by decide +kernel), List.mem_of_getElem? (i := 1242) (by decide +kernel), List.mem_of_getElem? (i := 1243) (by decide +kernel)⟩
theorem lw_p66 : lw_okq (⟨"WindHarpModel", "heardSet", "()I"⟩, 35) := ⟨⟨by decide +kernel, by decide +kernel⟩, List.mem_of_getElem? (i := 889) (by decide +kernel), List.mem_of_getElem? (i := 1264) (by decide +kernel), List.mem_of_getElem? (i := 1265) (by decide +kernel)⟩
theorem lw_p67 : lw_okq (⟨"WindHarpModel", "isLeft", "(III)Z"⟩, 35) := ⟨⟨by decide +kernel, by decide +kernel⟩, List.mem_of_getElem? (i := 889) (by decide +kernel), List.mem_of_getElem? (i := 1268) (by decide +kernel), List.mem_of_getElem? (i := 1269) (by decide +kernel)⟩
theorem lw_p68 : lw_okq (⟨"WindHarpModel", "kindOf", "(II)I"⟩, 35) := ⟨⟨by decide +kernel, by decide +kernel⟩, List.mem_of_getElem? (i := 889) (by decide +kernel), List.mem_of_getElem? (i := 1284) (by decide +kernel), List.mem_of_getElem? (i := 1285) (by decide +kernel)⟩
theorem lw_p69 : lw_okq (⟨"WindHarpModel", "sizeOf", "(II)I"⟩, 35) := ⟨⟨by decide +kernel, by decide +kernel⟩, List.mem_of_getElem? (i := 889) (by decide +kernel), List.mem_of_getElem? (i := 1299) (by decide +kernel), List.mem_of_getElem? (i := 1300) (by decide +kernel)⟩
theorem lw_p70 : lw_okq (⟨"WindHarpModel", "muteSize", "(II)I"⟩, 35) := ⟨⟨by decide +kernel, by decide +kernel⟩, List.mem_of_getElem? (i := 889) (by decide +kernel), List.mem_of_getElem? (i := 1303) (by decide +kernel), List.mem_of_getElem? (i := 1304) (by decide +kernel)⟩
theorem lw_p71 : lw_okq (⟨"WindHarpModel", "began", "(I)V"⟩, 35) := ⟨⟨by decide +kernel, by decide +kernel⟩, List.mem_of_getElem? (i := 889) (by decide +kernel), List.mem_of_getElem? (i := 1307) (by decide +kernel), List.mem_of_getElem? (i := 1308) (by decide +kernel)⟩
theorem lw_p72 : lw_okq (⟨"WindHarpModel", "plainSize", "(I)I"⟩, 35) := ⟨⟨by decide +kernel, by decide +kernel⟩, List.mem_of_getElem? (i := 889) (by decide +kernel), List.mem_of_getElem? (i := 1311) (by decide +kernel), List.mem_of_getElem? (i := 1312) (by decide +kernel)⟩
theorem lw_p73 : lw_okq (⟨"WindHarpModel", "markOf", "(II)I"⟩, 35) := ⟨⟨by decide +kernel, by decide +kernel⟩, List.mem_of_getElem? (i := 889) (by decide +kernel), List.mem_of_getElem? (i := 1315) (by decide +kernel), List.mem_of_getElem? (i := 1316) (by decide +kernel)⟩
def lw_privs_5 : List (MethodName × Nat) := [(⟨"WindHarpModel", "layCuts", "(II)Z"⟩, 35), (⟨"WindHarpModel", "buzzNow", "()I"⟩, 35), (⟨"WindHarpModel", "heardSet", "()I"⟩, 35), (⟨"WindHarpModel", "isLeft", "(III)Z"⟩, 35), (⟨"WindHarpModel", "kindOf", "(II)I"⟩, 35), (⟨"WindHarpModel", "sizeOf", "(II)I"⟩, 35), (⟨"WindHarpModel", "muteSize", "(II)I"⟩, 35), (⟨"WindHarpModel", "began", "(I)V"⟩, 35), (⟨"WindHarpModel", "plainSize", "(I)I"⟩, 35), (⟨"WindHarpModel", "markOf", "(II)I"⟩, 35)]
theorem lw_r5 : ∀ q ∈ lw_privs_5, lw_okq q := List.forall_mem_cons.mpr ⟨lw_p64, List.forall_mem_cons.mpr ⟨lw_p65, List.forall_mem_cons.mpr ⟨lw_p66, List.forall_mem_cons.mpr ⟨lw_p67, List.forall_mem_cons.mpr ⟨lw_p68, List.forall_mem_cons.mpr ⟨lw_p69, List.forall_mem_cons.mpr ⟨lw_p70, List.forall_mem_cons.mpr ⟨lw_p71, List.forall_mem_cons.mpr ⟨lw_p72, List.forall_mem_cons.mpr ⟨lw_p73, fun _ h => absurd h List.not_mem_nil⟩⟩⟩⟩⟩⟩⟩⟩⟩⟩
def lw_privs : List (MethodName × Nat) := lw_privs_1 ++ (lw_privs_2 ++ (lw_privs_3 ++ (lw_privs_4 ++ (lw_privs_5))))
def lw_tbl : List Cond := k2_sels lw_privs ++ tables_1
theorem lw_privs_ok : ∀ q ∈ lw_privs, lw_okq q := by
  show ∀ q ∈ lw_privs_1 ++ (lw_privs_2 ++ (lw_privs_3 ++ (lw_privs_4 ++ (lw_privs_5)))), lw_okq q
  exact List.forall_mem_append.mpr ⟨lw_r1, List.forall_mem_append.mpr ⟨lw_r2, List.forall_mem_append.mpr ⟨lw_r3, List.forall_mem_append.mpr ⟨lw_r4, lw_r5⟩⟩⟩⟩
def RX0 : String := "WindHarp$Asks"
def TX0 : u_T := fun k => match k with
  | 0 => ("WindHarp$Asks", "bodies", "[I", true)
  | 1 => ("WindHarp$Asks", "count", "I", false)
  | 2 => ("WindHarp$Asks", "tree", "I", false)
  | 3 => ("WindHarp$Asks", "toldAs", "I", false)
  | 4 => ("WindHarp$Asks", "length", "I", false)
  | _ => ("WindHarp$Asks", "tone", "I", false)
def tyX0 : Nat → FieldType := fun k => match k with
  | 0 => .array .int
  | 1 => .int
  | 2 => .int
  | 3 => .int
  | 4 => .int
  | _ => .int
theorem nmX0 : ∀ a, a < 6 → ∀ b, b < 6 → a ≠ b → (TX0 a).2.1 ≠ (TX0 b).2.1 := by decide +kernel
theorem tyX0_ok : ∀ k, k < 6 → parseFieldDescriptor (TX0 k).2.2.1 = some (tyX0 k) := by decide +kernel
abbrev cX0_init : ByteArray := prog_2_method_1_code
def yX0_init : MethodName := ⟨RX0, "<init>", "()V"⟩
abbrev cX0_begin : ByteArray := prog_2_method_2_code
def yX0_begin : MethodName := ⟨RX0, "begin", "(IIII)V"⟩
abbrev cX0_leave : ByteArray := prog_2_method_3_code
def yX0_leave : MethodName := ⟨RX0, "leave", "(I)V"⟩
abbrev cX0_sizeAsked : ByteArray := prog_2_method_4_code
def yX0_sizeAsked : MethodName := ⟨RX0, "sizeAsked", "()I"⟩
abbrev cX0_markAsked : ByteArray := prog_2_method_5_code
def yX0_markAsked : MethodName := ⟨RX0, "markAsked", "()I"⟩
abbrev cX0_body10 : ByteArray := prog_2_method_6_code
def yX0_body10 : MethodName := ⟨RX0, "body10", "()I"⟩
abbrev cX0_body11 : ByteArray := prog_2_method_7_code
def yX0_body11 : MethodName := ⟨RX0, "body11", "()I"⟩
abbrev cX0_body12 : ByteArray := prog_2_method_8_code
def yX0_body12 : MethodName := ⟨RX0, "body12", "()I"⟩
abbrev cX0_body13 : ByteArray := prog_2_method_9_code
def yX0_body13 : MethodName := ⟨RX0, "body13", "()I"⟩
abbrev cX0_body14 : ByteArray := prog_2_method_10_code
def yX0_body14 : MethodName := ⟨RX0, "body14", "()I"⟩
abbrev cX0_body20 : ByteArray := prog_2_method_11_code
def yX0_body20 : MethodName := ⟨RX0, "body20", "()I"⟩
abbrev cX0_body21 : ByteArray := prog_2_method_12_code
def yX0_body21 : MethodName := ⟨RX0, "body21", "()I"⟩
abbrev cX0_body22 : ByteArray := prog_2_method_13_code
def yX0_body22 : MethodName := ⟨RX0, "body22", "()I"⟩
abbrev cX0_body23 : ByteArray := prog_2_method_14_code
def yX0_body23 : MethodName := ⟨RX0, "body23", "()I"⟩
abbrev cX0_body24 : ByteArray := prog_2_method_15_code
def yX0_body24 : MethodName := ⟨RX0, "body24", "()I"⟩
def RX1 : String := "WindHarp$Cuts"
def TX1 : u_T := fun k => match k with
  | 0 => ("WindHarp$Cuts", "chosen", "[I", true)
  | _ => ("WindHarp$Cuts", "count", "I", false)
def tyX1 : Nat → FieldType := fun k => match k with
  | 0 => .array .int
  | _ => .int
theorem nmX1 : ∀ a, a < 2 → ∀ b, b < 2 → a ≠ b → (TX1 a).2.1 ≠ (TX1 b).2.1 := by decide +kernel
theorem tyX1_ok : ∀ k, k < 2 → parseFieldDescriptor (TX1 k).2.2.1 = some (tyX1 k) := by decide +kernel
abbrev cX1_init : ByteArray := prog_3_method_1_code
def yX1_init : MethodName := ⟨RX1, "<init>", "()V"⟩
abbrev cX1_choose : ByteArray := prog_3_method_2_code
def yX1_choose : MethodName := ⟨RX1, "choose", "(LWindHarp$Ear;)V"⟩
abbrev cX1_rowsOfSteps : ByteArray := prog_3_method_3_code
def yX1_rowsOfSteps : MethodName := ⟨RX1, "rowsOfSteps", "()I"⟩
abbrev cX1_sumOf : ByteArray := prog_3_method_4_code
def yX1_sumOf : MethodName := ⟨RX1, "sumOf", "(I)I"⟩
abbrev cX1_tryOn : ByteArray := prog_3_method_5_code
def yX1_tryOn : MethodName := ⟨RX1, "tryOn", "(LWindHarp$Wood;LWindHarp$Wood;II)Z"⟩
def RX2 : String := "WindHarp$Deeds"
def TX2 : u_T := fun k => match k with
  | 0 => ("WindHarp$Deeds", "order", "[I", true)
  | 1 => ("WindHarp$Deeds", "tree", "[I", true)
  | 2 => ("WindHarp$Deeds", "number", "[I", true)
  | _ => ("WindHarp$Deeds", "count", "I", false)
def tyX2 : Nat → FieldType := fun k => match k with
  | 0 => .array .int
  | 1 => .array .int
  | 2 => .array .int
  | _ => .int
theorem nmX2 : ∀ a, a < 4 → ∀ b, b < 4 → a ≠ b → (TX2 a).2.1 ≠ (TX2 b).2.1 := by decide +kernel
theorem tyX2_ok : ∀ k, k < 4 → parseFieldDescriptor (TX2 k).2.2.1 = some (tyX2 k) := by decide +kernel
abbrev cX2_init : ByteArray := prog_4_method_1_code
def yX2_init : MethodName := ⟨RX2, "<init>", "()V"⟩
abbrev cX2_add : ByteArray := prog_4_method_2_code
def yX2_add : MethodName := ⟨RX2, "add", "(III)V"⟩
abbrev cX2_takeOver : ByteArray := prog_4_method_3_code
def yX2_takeOver : MethodName := ⟨RX2, "takeOver", "(LWindHarp$Deeds;)V"⟩
def RX3 : String := "WindHarp$Ear"
def TX3 : u_T := fun k => match k with
  | 0 => ("WindHarp$Ear", "tones", "[I", true)
  | 1 => ("WindHarp$Ear", "trees", "[I", true)
  | 2 => ("WindHarp$Ear", "line", "[I", true)
  | _ => ("WindHarp$Ear", "count", "I", false)
def tyX3 : Nat → FieldType := fun k => match k with
  | 0 => .array .int
  | 1 => .array .int
  | 2 => .array .int
  | _ => .int
theorem nmX3 : ∀ a, a < 4 → ∀ b, b < 4 → a ≠ b → (TX3 a).2.1 ≠ (TX3 b).2.1 := by decide +kernel
theorem tyX3_ok : ∀ k, k < 4 → parseFieldDescriptor (TX3 k).2.2.1 = some (tyX3 k) := by decide +kernel
abbrev cX3_init : ByteArray := prog_5_method_1_code
def yX3_init : MethodName := ⟨RX3, "<init>", "()V"⟩
abbrev cX3_listen : ByteArray := prog_5_method_2_code
def yX3_listen : MethodName := ⟨RX3, "listen", "(LWindHarp$Wood;I)V"⟩
abbrev cX3_areSame : ByteArray := prog_5_method_3_code
def yX3_areSame : MethodName := ⟨RX3, "areSame", "(III)Z"⟩
abbrev cX3_slipsFrom : ByteArray := prog_5_method_4_code
def yX3_slipsFrom : MethodName := ⟨RX3, "slipsFrom", "([III)I"⟩
abbrev cX3_sharedWith : ByteArray := prog_5_method_5_code
def yX3_sharedWith : MethodName := ⟨RX3, "sharedWith", "([III)I"⟩
abbrev cX3_buzzing : ByteArray := prog_5_method_6_code
def yX3_buzzing : MethodName := ⟨RX3, "buzzing", "()I"⟩
abbrev cX3_countMissing : ByteArray := prog_5_method_7_code
def yX3_countMissing : MethodName := ⟨RX3, "countMissing", "([II)I"⟩
abbrev cX3_missingSet : ByteArray := prog_5_method_8_code
def yX3_missingSet : MethodName := ⟨RX3, "missingSet", "([III)I"⟩
abbrev cX3_isLeftBy : ByteArray := prog_5_method_9_code
def yX3_isLeftBy : MethodName := ⟨RX3, "isLeftBy", "(I[II)Z"⟩
def RX4 : String := "WindHarp$Reader"
def TX4 : u_T := fun k => match k with
  | 0 => ("WindHarp$Reader", "tape", "[B", true)
  | 1 => ("WindHarp$Reader", "size", "I", false)
  | 2 => ("WindHarp$Reader", "start", "I", false)
  | 3 => ("WindHarp$Reader", "fault", "I", false)
  | 4 => ("WindHarp$Reader", "at", "I", false)
  | 5 => ("WindHarp$Reader", "sort", "I", false)
  | _ => ("WindHarp$Reader", "value", "I", false)
def tyX4 : Nat → FieldType := fun k => match k with
  | 0 => .array .byte
  | 1 => .int
  | 2 => .int
  | 3 => .int
  | 4 => .int
  | 5 => .int
  | _ => .int
theorem nmX4 : ∀ a, a < 7 → ∀ b, b < 7 → a ≠ b → (TX4 a).2.1 ≠ (TX4 b).2.1 := by decide +kernel
theorem tyX4_ok : ∀ k, k < 7 → parseFieldDescriptor (TX4 k).2.2.1 = some (tyX4 k) := by decide +kernel
abbrev cX4_init : ByteArray := prog_6_method_1_code
def yX4_init : MethodName := ⟨RX4, "<init>", "()V"⟩
abbrev cX4_addBytes : ByteArray := prog_6_method_2_code
def yX4_addBytes : MethodName := ⟨RX4, "addBytes", "(JI)V"⟩
abbrev cX4_readWood : ByteArray := prog_6_method_3_code
def yX4_readWood : MethodName := ⟨RX4, "readWood", "(LWindHarp$Wood;)V"⟩
abbrev cX4_readOrders : ByteArray := prog_6_method_4_code
def yX4_readOrders : MethodName := ⟨RX4, "readOrders", "(LWindHarp$Deeds;I)V"⟩
abbrev cX4_begin : ByteArray := prog_6_method_5_code
def yX4_begin : MethodName := ⟨RX4, "begin", "()V"⟩
abbrev cX4_isMore : ByteArray := prog_6_method_6_code
def yX4_isMore : MethodName := ⟨RX4, "isMore", "()Z"⟩
abbrev cX4_readPart : ByteArray := prog_6_method_7_code
def yX4_readPart : MethodName := ⟨RX4, "readPart", "(LWindHarp$Wood;I)I"⟩
abbrev cX4_readTree : ByteArray := prog_6_method_8_code
def yX4_readTree : MethodName := ⟨RX4, "readTree", "(LWindHarp$Trees;)V"⟩
abbrev cX4_readWind : ByteArray := prog_6_method_9_code
def yX4_readWind : MethodName := ⟨RX4, "readWind", "(LWindHarp$Winds;)V"⟩
abbrev cX4_readTune : ByteArray := prog_6_method_10_code
def yX4_readTune : MethodName := ⟨RX4, "readTune", "(LWindHarp$Wood;)V"⟩
abbrev cX4_readOrder : ByteArray := prog_6_method_11_code
def yX4_readOrder : MethodName := ⟨RX4, "readOrder", "(LWindHarp$Deeds;I)V"⟩
abbrev cX4_orderHere : ByteArray := prog_6_method_12_code
def yX4_orderHere : MethodName := ⟨RX4, "orderHere", "()I"⟩
abbrev cX4_wordOf : ByteArray := prog_6_method_13_code
def yX4_wordOf : MethodName := ⟨RX4, "wordOf", "(I)Ljava/lang/String;"⟩
abbrev cX4_fail : ByteArray := prog_6_method_14_code
def yX4_fail : MethodName := ⟨RX4, "fail", "(I)V"⟩
abbrev cX4_takeNumber : ByteArray := prog_6_method_15_code
def yX4_takeNumber : MethodName := ⟨RX4, "takeNumber", "(II)I"⟩
abbrev cX4_takeSign : ByteArray := prog_6_method_16_code
def yX4_takeSign : MethodName := ⟨RX4, "takeSign", "()V"⟩
abbrev cX4_isWord : ByteArray := prog_6_method_17_code
def yX4_isWord : MethodName := ⟨RX4, "isWord", "(Ljava/lang/String;)Z"⟩
abbrev cX4_next : ByteArray := prog_6_method_18_code
def yX4_next : MethodName := ⟨RX4, "next", "()V"⟩
abbrev cX4_byteAt : ByteArray := prog_6_method_19_code
def yX4_byteAt : MethodName := ⟨RX4, "byteAt", "(I)I"⟩
abbrev cX4_isBlank : ByteArray := prog_6_method_20_code
def yX4_isBlank : MethodName := ⟨RX4, "isBlank", "(I)Z"⟩
abbrev cX4_isLetter : ByteArray := prog_6_method_21_code
def yX4_isLetter : MethodName := ⟨RX4, "isLetter", "(I)Z"⟩
abbrev cX4_isFigure : ByteArray := prog_6_method_22_code
def yX4_isFigure : MethodName := ⟨RX4, "isFigure", "(I)Z"⟩
def RX5 : String := "WindHarp$Rows"
def TX5 : u_T := fun k => match k with
  | 0 => ("WindHarp$Rows", "there", "[Z", true)
  | 1 => ("WindHarp$Rows", "lanes", "[I", true)
  | 2 => ("WindHarp$Rows", "sizes", "[I", true)
  | _ => ("WindHarp$Rows", "items", "[I", true)
def tyX5 : Nat → FieldType := fun k => match k with
  | 0 => .array .boolean
  | 1 => .array .int
  | 2 => .array .int
  | _ => .array .int
theorem nmX5 : ∀ a, a < 4 → ∀ b, b < 4 → a ≠ b → (TX5 a).2.1 ≠ (TX5 b).2.1 := by decide +kernel
theorem tyX5_ok : ∀ k, k < 4 → parseFieldDescriptor (TX5 k).2.2.1 = some (tyX5 k) := by decide +kernel
abbrev cX5_init : ByteArray := prog_7_method_1_code
def yX5_init : MethodName := ⟨RX5, "<init>", "()V"⟩
abbrev cX5_isRow : ByteArray := prog_7_method_2_code
def yX5_isRow : MethodName := ⟨RX5, "isRow", "(I)Z"⟩
abbrev cX5_isThere : ByteArray := prog_7_method_3_code
def yX5_isThere : MethodName := ⟨RX5, "isThere", "(I)Z"⟩
abbrev cX5_areAlike : ByteArray := prog_7_method_4_code
def yX5_areAlike : MethodName := ⟨RX5, "areAlike", "(II)Z"⟩
abbrev cX5_hasPlaces : ByteArray := prog_7_method_5_code
def yX5_hasPlaces : MethodName := ⟨RX5, "hasPlaces", "(III)Z"⟩
abbrev cX5_make : ByteArray := prog_7_method_6_code
def yX5_make : MethodName := ⟨RX5, "make", "(III)V"⟩
abbrev cX5_put : ByteArray := prog_7_method_7_code
def yX5_put : MethodName := ⟨RX5, "put", "(III)I"⟩
abbrev cX5_move : ByteArray := prog_7_method_8_code
def yX5_move : MethodName := ⟨RX5, "move", "(IIIII)V"⟩
abbrev cX5_read : ByteArray := prog_7_method_9_code
def yX5_read : MethodName := ⟨RX5, "read", "(II[II)V"⟩
abbrev cX5_takeAway : ByteArray := prog_7_method_10_code
def yX5_takeAway : MethodName := ⟨RX5, "takeAway", "(I)I"⟩
abbrev cX5_countThere : ByteArray := prog_7_method_11_code
def yX5_countThere : MethodName := ⟨RX5, "countThere", "()I"⟩
def RX6 : String := "WindHarp$Trees"
def TX6 : u_T := fun k => match k with
  | 0 => ("WindHarp$Trees", "length", "[I", true)
  | 1 => ("WindHarp$Trees", "pull", "[I", true)
  | 2 => ("WindHarp$Trees", "side", "[I", true)
  | 3 => ("WindHarp$Trees", "grows", "[I", true)
  | 4 => ("WindHarp$Trees", "ice", "[I", true)
  | 5 => ("WindHarp$Trees", "felled", "[I", true)
  | _ => ("WindHarp$Trees", "count", "I", false)
def tyX6 : Nat → FieldType := fun k => match k with
  | 0 => .array .int
  | 1 => .array .int
  | 2 => .array .int
  | 3 => .array .int
  | 4 => .array .int
  | 5 => .array .int
  | _ => .int
theorem nmX6 : ∀ a, a < 7 → ∀ b, b < 7 → a ≠ b → (TX6 a).2.1 ≠ (TX6 b).2.1 := by decide +kernel
theorem tyX6_ok : ∀ k, k < 7 → parseFieldDescriptor (TX6 k).2.2.1 = some (tyX6 k) := by decide +kernel
abbrev cX6_init : ByteArray := prog_8_method_1_code
def yX6_init : MethodName := ⟨RX6, "<init>", "()V"⟩
abbrev cX6_has : ByteArray := prog_8_method_2_code
def yX6_has : MethodName := ⟨RX6, "has", "(I)Z"⟩
abbrev cX6_add : ByteArray := prog_8_method_3_code
def yX6_add : MethodName := ⟨RX6, "add", "(IIII)V"⟩
abbrev cX6_longer : ByteArray := prog_8_method_4_code
def yX6_longer : MethodName := ⟨RX6, "longer", "(II)I"⟩
abbrev cX6_stretch : ByteArray := prog_8_method_5_code
def yX6_stretch : MethodName := ⟨RX6, "stretch", "(II)I"⟩
abbrev cX6_growAll : ByteArray := prog_8_method_6_code
def yX6_growAll : MethodName := ⟨RX6, "growAll", "(I)V"⟩
abbrev cX6_takeOver : ByteArray := prog_8_method_7_code
def yX6_takeOver : MethodName := ⟨RX6, "takeOver", "(LWindHarp$Trees;)V"⟩
def RX7 : String := "WindHarp$Winds"
def TX7 : u_T := fun k => match k with
  | 0 => ("WindHarp$Winds", "side", "[I", true)
  | 1 => ("WindHarp$Winds", "strength", "[I", true)
  | 2 => ("WindHarp$Winds", "odds", "[I", true)
  | _ => ("WindHarp$Winds", "count", "I", false)
def tyX7 : Nat → FieldType := fun k => match k with
  | 0 => .array .int
  | 1 => .array .int
  | 2 => .array .int
  | _ => .int
theorem nmX7 : ∀ a, a < 4 → ∀ b, b < 4 → a ≠ b → (TX7 a).2.1 ≠ (TX7 b).2.1 := by decide +kernel
theorem tyX7_ok : ∀ k, k < 4 → parseFieldDescriptor (TX7 k).2.2.1 = some (tyX7 k) := by decide +kernel
abbrev cX7_init : ByteArray := prog_9_method_1_code
def yX7_init : MethodName := ⟨RX7, "<init>", "()V"⟩
abbrev cX7_has : ByteArray := prog_9_method_2_code
def yX7_has : MethodName := ⟨RX7, "has", "(I)Z"⟩
abbrev cX7_add : ByteArray := prog_9_method_3_code
def yX7_add : MethodName := ⟨RX7, "add", "(III)V"⟩
abbrev cX7_takeOver : ByteArray := prog_9_method_4_code
def yX7_takeOver : MethodName := ⟨RX7, "takeOver", "(LWindHarp$Winds;)V"⟩
def RX8 : String := "WindHarp$Wood"
def TX8 : u_T := fun k => match k with
  | 0 => ("WindHarp$Wood", "trees", "LWindHarp$Trees;", true)
  | 1 => ("WindHarp$Wood", "winds", "LWindHarp$Winds;", true)
  | 2 => ("WindHarp$Wood", "done", "LWindHarp$Deeds;", true)
  | 3 => ("WindHarp$Wood", "tune", "[I", true)
  | 4 => ("WindHarp$Wood", "toneCount", "I", false)
  | 5 => ("WindHarp$Wood", "years", "I", false)
  | 6 => ("WindHarp$Wood", "wet", "I", false)
  | _ => ("WindHarp$Wood", "isThere", "Z", false)
def tyX8 : Nat → FieldType := fun k => match k with
  | 0 => .object "WindHarp$Trees"
  | 1 => .object "WindHarp$Winds"
  | 2 => .object "WindHarp$Deeds"
  | 3 => .array .int
  | 4 => .int
  | 5 => .int
  | 6 => .int
  | _ => .boolean
theorem nmX8 : ∀ a, a < 8 → ∀ b, b < 8 → a ≠ b → (TX8 a).2.1 ≠ (TX8 b).2.1 := by decide +kernel
theorem tyX8_ok : ∀ k, k < 8 → parseFieldDescriptor (TX8 k).2.2.1 = some (tyX8 k) := by decide +kernel
abbrev cX8_init : ByteArray := prog_10_method_1_code
def yX8_init : MethodName := ⟨RX8, "<init>", "()V"⟩
abbrev cX8_beginAnew : ByteArray := prog_10_method_2_code
def yX8_beginAnew : MethodName := ⟨RX8, "beginAnew", "()V"⟩
abbrev cX8_takeOver : ByteArray := prog_10_method_3_code
def yX8_takeOver : MethodName := ⟨RX8, "takeOver", "(LWindHarp$Wood;)V"⟩
abbrev cX8_addTone : ByteArray := prog_10_method_4_code
def yX8_addTone : MethodName := ⟨RX8, "addTone", "(I)V"⟩
abbrev cX8_dryTone : ByteArray := prog_10_method_5_code
def yX8_dryTone : MethodName := ⟨RX8, "dryTone", "(II)I"⟩
abbrev cX8_toneOf : ByteArray := prog_10_method_6_code
def yX8_toneOf : MethodName := ⟨RX8, "toneOf", "(I)I"⟩
abbrev cX8_sounds : ByteArray := prog_10_method_7_code
def yX8_sounds : MethodName := ⟨RX8, "sounds", "(II)Z"⟩
abbrev cX8_grow : ByteArray := prog_10_method_8_code
def yX8_grow : MethodName := ⟨RX8, "grow", "(I)V"⟩
abbrev cX8_carryOutAll : ByteArray := prog_10_method_9_code
def yX8_carryOutAll : MethodName := ⟨RX8, "carryOutAll", "(LWindHarp$Deeds;)V"⟩
abbrev cX8_carryOut : ByteArray := prog_10_method_10_code
def yX8_carryOut : MethodName := ⟨RX8, "carryOut", "(III)V"⟩
abbrev cX8_takeBack : ByteArray := prog_10_method_11_code
def yX8_takeBack : MethodName := ⟨RX8, "takeBack", "()V"⟩
def RX9 : String := "WindHarp"
def TX9 : u_T := fun k => match k with
  | 0 => ("WindHarp", "reader", "LWindHarp$Reader;", true)
  | 1 => ("WindHarp", "rows", "LWindHarp$Rows;", true)
  | 2 => ("WindHarp", "current", "LWindHarp$Wood;", true)
  | 3 => ("WindHarp", "draft", "LWindHarp$Wood;", true)
  | 4 => ("WindHarp", "firstImage", "LWindHarp$Wood;", true)
  | 5 => ("WindHarp", "secondImage", "LWindHarp$Wood;", true)
  | 6 => ("WindHarp", "told", "LWindHarp$Deeds;", true)
  | 7 => ("WindHarp", "ear", "LWindHarp$Ear;", true)
  | 8 => ("WindHarp", "cuts", "LWindHarp$Cuts;", true)
  | 9 => ("WindHarp", "asks", "LWindHarp$Asks;", true)
  | 10 => ("WindHarp", "heard", "[I", true)
  | 11 => ("WindHarp", "faultNumber", "I", false)
  | _ => ("WindHarp", "finding", "I", false)
def tyX9 : Nat → FieldType := fun k => match k with
  | 0 => .object "WindHarp$Reader"
  | 1 => .object "WindHarp$Rows"
  | 2 => .object "WindHarp$Wood"
  | 3 => .object "WindHarp$Wood"
  | 4 => .object "WindHarp$Wood"
  | 5 => .object "WindHarp$Wood"
  | 6 => .object "WindHarp$Deeds"
  | 7 => .object "WindHarp$Ear"
  | 8 => .object "WindHarp$Cuts"
  | 9 => .object "WindHarp$Asks"
  | 10 => .array .int
  | 11 => .int
  | _ => .int
theorem nmX9 : ∀ a, a < 13 → ∀ b, b < 13 → a ≠ b → (TX9 a).2.1 ≠ (TX9 b).2.1 := by decide +kernel
theorem tyX9_ok : ∀ k, k < 13 → parseFieldDescriptor (TX9 k).2.2.1 = some (tyX9 k) := by decide +kernel
abbrev cX9_init : ByteArray := prog_1_method_1_code
def yX9_init : MethodName := ⟨RX9, "<init>", "()V"⟩
abbrev cX9_row : ByteArray := prog_1_method_2_code
def yX9_row : MethodName := ⟨RX9, "row", "(III)I"⟩
abbrev cX9_set : ByteArray := prog_1_method_3_code
def yX9_set : MethodName := ⟨RX9, "set", "(III)I"⟩
abbrev cX9_copy : ByteArray := prog_1_method_4_code
def yX9_copy : MethodName := ⟨RX9, "copy", "(IIIII)I"⟩
abbrev cX9_drop : ByteArray := prog_1_method_5_code
def yX9_drop : MethodName := ⟨RX9, "drop", "(I)I"⟩
abbrev cX9_feed : ByteArray := prog_1_method_6_code
def yX9_feed : MethodName := ⟨RX9, "feed", "(JI)I"⟩
abbrev cX9_wood : ByteArray := prog_1_method_7_code
def yX9_wood : MethodName := ⟨RX9, "wood", "()I"⟩
abbrev cX9_orders : ByteArray := prog_1_method_8_code
def yX9_orders : MethodName := ⟨RX9, "orders", "()I"⟩
abbrev cX9_fault : ByteArray := prog_1_method_9_code
def yX9_fault : MethodName := ⟨RX9, "fault", "()I"⟩
abbrev cX9_undo : ByteArray := prog_1_method_10_code
def yX9_undo : MethodName := ⟨RX9, "undo", "()I"⟩
abbrev cX9_go : ByteArray := prog_1_method_11_code
def yX9_go : MethodName := ⟨RX9, "go", "(I)I"⟩
abbrev cX9_tree : ByteArray := prog_1_method_12_code
def yX9_tree : MethodName := ⟨RX9, "tree", "(II)I"⟩
abbrev cX9_sound : ByteArray := prog_1_method_13_code
def yX9_sound : MethodName := ⟨RX9, "sound", "(II)I"⟩
abbrev cX9_slips : ByteArray := prog_1_method_14_code
def yX9_slips : MethodName := ⟨RX9, "slips", "(II)I"⟩
abbrev cX9_cheapest : ByteArray := prog_1_method_15_code
def yX9_cheapest : MethodName := ⟨RX9, "cheapest", "(IIIIII)I"⟩
abbrev cX9_tuned : ByteArray := prog_1_method_16_code
def yX9_tuned : MethodName := ⟨RX9, "tuned", "(III)I"⟩
abbrev cX9_plays : ByteArray := prog_1_method_17_code
def yX9_plays : MethodName := ⟨RX9, "plays", "(III)I"⟩
abbrev cX9_buzz : ByteArray := prog_1_method_18_code
def yX9_buzz : MethodName := ⟨RX9, "buzz", "(I)I"⟩
abbrev cX9_birds : ByteArray := prog_1_method_19_code
def yX9_birds : MethodName := ⟨RX9, "birds", "(IIIII)I"⟩
abbrev cX9_hung : ByteArray := prog_1_method_20_code
def yX9_hung : MethodName := ⟨RX9, "hung", "(IIII)I"⟩
abbrev cX9_missing : ByteArray := prog_1_method_21_code
def yX9_missing : MethodName := ⟨RX9, "missing", "(IIII)I"⟩
abbrev cX9_image : ByteArray := prog_1_method_22_code
def yX9_image : MethodName := ⟨RX9, "image", "(I)I"⟩
abbrev cX9_restore : ByteArray := prog_1_method_23_code
def yX9_restore : MethodName := ⟨RX9, "restore", "(I)I"⟩
abbrev cX9_kind : ByteArray := prog_1_method_24_code
def yX9_kind : MethodName := ⟨RX9, "kind", "(II)I"⟩
abbrev cX9_as : ByteArray := prog_1_method_25_code
def yX9_as : MethodName := ⟨RX9, "as", "(III)I"⟩
abbrev cX9_ask : ByteArray := prog_1_method_26_code
def yX9_ask : MethodName := ⟨RX9, "ask", "(III)I"⟩
abbrev cX9_trace : ByteArray := prog_1_method_27_code
def yX9_trace : MethodName := ⟨RX9, "trace", "(I)I"⟩
abbrev cX9_count : ByteArray := prog_1_method_28_code
def yX9_count : MethodName := ⟨RX9, "count", "(I)I"⟩
abbrev cX9_status : ByteArray := prog_1_method_29_code
def yX9_status : MethodName := ⟨RX9, "status", "()I"⟩
abbrev cX9_found : ByteArray := prog_1_method_30_code
def yX9_found : MethodName := ⟨RX9, "found", "(I)I"⟩
abbrev cX9_passed : ByteArray := prog_1_method_31_code
def yX9_passed : MethodName := ⟨RX9, "passed", "(I)I"⟩
abbrev cX9_faulted : ByteArray := prog_1_method_32_code
def yX9_faulted : MethodName := ⟨RX9, "faulted", "()I"⟩
abbrev cX9_imageAt : ByteArray := prog_1_method_33_code
def yX9_imageAt : MethodName := ⟨RX9, "imageAt", "(I)LWindHarp$Wood;"⟩
abbrev cX9_isSlack : ByteArray := prog_1_method_34_code
def yX9_isSlack : MethodName := ⟨RX9, "isSlack", "(I)Z"⟩
abbrev cX9_isApart : ByteArray := prog_1_method_35_code
def yX9_isApart : MethodName := ⟨RX9, "isApart", "(I)Z"⟩
abbrev cX9_slipsIn : ByteArray := prog_1_method_36_code
def yX9_slipsIn : MethodName := ⟨RX9, "slipsIn", "(LWindHarp$Wood;II)I"⟩
abbrev cX9_cheapestSteps : ByteArray := prog_1_method_37_code
def yX9_cheapestSteps : MethodName := ⟨RX9, "cheapestSteps", "(IIIII)I"⟩
abbrev cX9_bestOfSum : ByteArray := prog_1_method_38_code
def yX9_bestOfSum : MethodName := ⟨RX9, "bestOfSum", "(IIIIII)I"⟩
abbrev cX9_sharedDivisor : ByteArray := prog_1_method_39_code
def yX9_sharedDivisor : MethodName := ⟨RX9, "sharedDivisor", "(II)I"⟩
abbrev cX9_kindIn : ByteArray := prog_1_method_40_code
def yX9_kindIn : MethodName := ⟨RX9, "kindIn", "(II)I"⟩
abbrev cX9_isOfKind : ByteArray := prog_1_method_41_code
def yX9_isOfKind : MethodName := ⟨RX9, "isOfKind", "(II)Z"⟩
def RX10 : String := "WindHarpModel"
def TX10 : u_T := fun k => match k with
  | 0 => ("WindHarpModel", "thrown", "I", false)
  | 1 => ("WindHarpModel", "status", "I", false)
  | 2 => ("WindHarpModel", "lane", "[I", true)
  | 3 => ("WindHarpModel", "many", "[I", true)
  | 4 => ("WindHarpModel", "item", "[I", true)
  | 5 => ("WindHarpModel", "wood", "[I", true)
  | 6 => ("WindHarpModel", "fresh", "[I", true)
  | 7 => ("WindHarpModel", "isThere", "Z", false)
  | 8 => ("WindHarpModel", "done", "[I", true)
  | 9 => ("WindHarpModel", "order", "[I", true)
  | 10 => ("WindHarpModel", "orders", "I", false)
  | 11 => ("WindHarpModel", "tape", "[I", true)
  | 12 => ("WindHarpModel", "taped", "I", false)
  | 13 => ("WindHarpModel", "latest", "I", false)
  | 14 => ("WindHarpModel", "length", "I", false)
  | 15 => ("WindHarpModel", "cursor", "I", false)
  | 16 => ("WindHarpModel", "token", "I", false)
  | 17 => ("WindHarpModel", "start", "I", false)
  | 18 => ("WindHarpModel", "till", "I", false)
  | 19 => ("WindHarpModel", "fault", "I", false)
  | 20 => ("WindHarpModel", "faultAt", "I", false)
  | 21 => ("WindHarpModel", "span", "[I", true)
  | 22 => ("WindHarpModel", "heard", "[I", true)
  | 23 => ("WindHarpModel", "whose", "[I", true)
  | 24 => ("WindHarpModel", "hears", "I", false)
  | 25 => ("WindHarpModel", "now", "[I", true)
  | 26 => ("WindHarpModel", "ahead", "[I", true)
  | 27 => ("WindHarpModel", "mayCut", "[I", true)
  | 28 => ("WindHarpModel", "cuts", "I", false)
  | 29 => ("WindHarpModel", "stepSum", "I", false)
  | 30 => ("WindHarpModel", "isKept", "[Z", true)
  | 31 => ("WindHarpModel", "keptWood", "[I", true)
  | 32 => ("WindHarpModel", "keptDone", "[I", true)
  | 33 => ("WindHarpModel", "trace", "[I", true)
  | _ => ("WindHarpModel", "traced", "I", false)
def tyX10 : Nat → FieldType := fun k => match k with
  | 0 => .int
  | 1 => .int
  | 2 => .array .int
  | 3 => .array .int
  | 4 => .array .int
  | 5 => .array .int
  | 6 => .array .int
  | 7 => .boolean
  | 8 => .array .int
  | 9 => .array .int
  | 10 => .int
  | 11 => .array .int
  | 12 => .int
  | 13 => .int
  | 14 => .int
  | 15 => .int
  | 16 => .int
  | 17 => .int
  | 18 => .int
  | 19 => .int
  | 20 => .int
  | 21 => .array .int
  | 22 => .array .int
  | 23 => .array .int
  | 24 => .int
  | 25 => .array .int
  | 26 => .array .int
  | 27 => .array .int
  | 28 => .int
  | 29 => .int
  | 30 => .array .boolean
  | 31 => .array .int
  | 32 => .array .int
  | 33 => .array .int
  | _ => .int
theorem nmX10 : ∀ a, a < 35 → ∀ b, b < 35 → a ≠ b → (TX10 a).2.1 ≠ (TX10 b).2.1 := by decide +kernel
theorem tyX10_ok : ∀ k, k < 35 → parseFieldDescriptor (TX10 k).2.2.1 = some (tyX10 k) := by decide +kernel
abbrev cX10_init : ByteArray := prog_12_method_1_code
def yX10_init : MethodName := ⟨RX10, "<init>", "()V"⟩
abbrev cX10_in : ByteArray := prog_12_method_3_code
def yX10_in : MethodName := ⟨RX10, "in", "(JJJ)Z"⟩
abbrev cX10_finding : ByteArray := prog_12_method_4_code
def yX10_finding : MethodName := ⟨RX10, "finding", "(I)I"⟩
abbrev cX10_isRow : ByteArray := prog_12_method_5_code
def yX10_isRow : MethodName := ⟨RX10, "isRow", "(I)Z"⟩
abbrev cX10_row : ByteArray := prog_12_method_6_code
def yX10_row : MethodName := ⟨RX10, "row", "(III)I"⟩
abbrev cX10_set : ByteArray := prog_12_method_7_code
def yX10_set : MethodName := ⟨RX10, "set", "(III)I"⟩
abbrev cX10_copy : ByteArray := prog_12_method_8_code
def yX10_copy : MethodName := ⟨RX10, "copy", "(IIIII)I"⟩
abbrev cX10_drop : ByteArray := prog_12_method_9_code
def yX10_drop : MethodName := ⟨RX10, "drop", "(I)I"⟩
abbrev cX10_feed : ByteArray := prog_12_method_10_code
def yX10_feed : MethodName := ⟨RX10, "feed", "(JI)I"⟩
abbrev cX10_byteAt : ByteArray := prog_12_method_11_code
def yX10_byteAt : MethodName := ⟨RX10, "byteAt", "(I)I"⟩
abbrev cX10_isLetter : ByteArray := prog_12_method_12_code
def yX10_isLetter : MethodName := ⟨RX10, "isLetter", "(I)Z"⟩
abbrev cX10_isFigure : ByteArray := prog_12_method_13_code
def yX10_isFigure : MethodName := ⟨RX10, "isFigure", "(I)Z"⟩
abbrev cX10_next : ByteArray := prog_12_method_14_code
def yX10_next : MethodName := ⟨RX10, "next", "()V"⟩
abbrev cX10_begin : ByteArray := prog_12_method_15_code
def yX10_begin : MethodName := ⟨RX10, "begin", "()V"⟩
abbrev cX10_bad : ByteArray := prog_12_method_16_code
def yX10_bad : MethodName := ⟨RX10, "bad", "(I)V"⟩
abbrev cX10_must : ByteArray := prog_12_method_17_code
def yX10_must : MethodName := ⟨RX10, "must", "(Z)V"⟩
abbrev cX10_name : ByteArray := prog_12_method_18_code
def yX10_name : MethodName := ⟨RX10, "name", "()J"⟩
abbrev cX10_figures : ByteArray := prog_12_method_19_code
def yX10_figures : MethodName := ⟨RX10, "figures", "()I"⟩
abbrev cX10_number : ByteArray := prog_12_method_20_code
def yX10_number : MethodName := ⟨RX10, "number", "(II)I"⟩
abbrev cX10_orderOf : ByteArray := prog_12_method_21_code
def yX10_orderOf : MethodName := ⟨RX10, "orderOf", "(J)I"⟩
abbrev cX10_mustEnd : ByteArray := prog_12_method_22_code
def yX10_mustEnd : MethodName := ⟨RX10, "mustEnd", "()V"⟩
abbrev cX10_begins : ByteArray := prog_12_method_23_code
def yX10_begins : MethodName := ⟨RX10, "begins", "(II)V"⟩
abbrev cX10_readTree : ByteArray := prog_12_method_24_code
def yX10_readTree : MethodName := ⟨RX10, "readTree", "()V"⟩
abbrev cX10_readWind : ByteArray := prog_12_method_25_code
def yX10_readWind : MethodName := ⟨RX10, "readWind", "()V"⟩
abbrev cX10_readTone : ByteArray := prog_12_method_26_code
def yX10_readTone : MethodName := ⟨RX10, "readTone", "()V"⟩
abbrev cX10_readTune : ByteArray := prog_12_method_27_code
def yX10_readTune : MethodName := ⟨RX10, "readTune", "()V"⟩
abbrev cX10_ends : ByteArray := prog_12_method_28_code
def yX10_ends : MethodName := ⟨RX10, "ends", "(I)I"⟩
abbrev cX10_wood : ByteArray := prog_12_method_29_code
def yX10_wood : MethodName := ⟨RX10, "wood", "()I"⟩
abbrev cX10_readOrder : ByteArray := prog_12_method_30_code
def yX10_readOrder : MethodName := ⟨RX10, "readOrder", "()V"⟩
abbrev cX10_lengthOf : ByteArray := prog_12_method_31_code
def yX10_lengthOf : MethodName := ⟨RX10, "lengthOf", "(I)I"⟩
abbrev cX10_does : ByteArray := prog_12_method_32_code
def yX10_does : MethodName := ⟨RX10, "does", "(III)V"⟩
abbrev cX10_orders : ByteArray := prog_12_method_33_code
def yX10_orders : MethodName := ⟨RX10, "orders", "()I"⟩
abbrev cX10_fault : ByteArray := prog_12_method_34_code
def yX10_fault : MethodName := ⟨RX10, "fault", "()I"⟩
abbrev cX10_undo : ByteArray := prog_12_method_35_code
def yX10_undo : MethodName := ⟨RX10, "undo", "()I"⟩
abbrev cX10_isTree : ByteArray := prog_12_method_36_code
def yX10_isTree : MethodName := ⟨RX10, "isTree", "(I)Z"⟩
abbrev cX10_isWind : ByteArray := prog_12_method_37_code
def yX10_isWind : MethodName := ⟨RX10, "isWind", "(I)Z"⟩
abbrev cX10_of : ByteArray := prog_12_method_38_code
def yX10_of : MethodName := ⟨RX10, "of", "(II)I"⟩
abbrev cX10_layLengths : ByteArray := prog_12_method_39_code
def yX10_layLengths : MethodName := ⟨RX10, "layLengths", "()V"⟩
abbrev cX10_grow : ByteArray := prog_12_method_40_code
def yX10_grow : MethodName := ⟨RX10, "grow", "()V"⟩
abbrev cX10_go : ByteArray := prog_12_method_41_code
def yX10_go : MethodName := ⟨RX10, "go", "(I)I"⟩
abbrev cX10_tone : ByteArray := prog_12_method_42_code
def yX10_tone : MethodName := ⟨RX10, "tone", "(I)I"⟩
abbrev cX10_tree : ByteArray := prog_12_method_43_code
def yX10_tree : MethodName := ⟨RX10, "tree", "(II)I"⟩
abbrev cX10_sounds : ByteArray := prog_12_method_44_code
def yX10_sounds : MethodName := ⟨RX10, "sounds", "(II)Z"⟩
abbrev cX10_listen : ByteArray := prog_12_method_45_code
def yX10_listen : MethodName := ⟨RX10, "listen", "(I)V"⟩
abbrev cX10_sound : ByteArray := prog_12_method_46_code
def yX10_sound : MethodName := ⟨RX10, "sound", "(II)I"⟩
abbrev cX10_lesser : ByteArray := prog_12_method_47_code
def yX10_lesser : MethodName := ⟨RX10, "lesser", "(II)I"⟩
abbrev cX10_isNear : ByteArray := prog_12_method_48_code
def yX10_isNear : MethodName := ⟨RX10, "isNear", "(III)Z"⟩
abbrev cX10_slipsNow : ByteArray := prog_12_method_49_code
def yX10_slipsNow : MethodName := ⟨RX10, "slipsNow", "(I)I"⟩
abbrev cX10_slipsIn : ByteArray := prog_12_method_50_code
def yX10_slipsIn : MethodName := ⟨RX10, "slipsIn", "(II)I"⟩
abbrev cX10_isApart : ByteArray := prog_12_method_51_code
def yX10_isApart : MethodName := ⟨RX10, "isApart", "(I)Z"⟩
abbrev cX10_isSlips : ByteArray := prog_12_method_52_code
def yX10_isSlips : MethodName := ⟨RX10, "isSlips", "(I)Z"⟩
abbrev cX10_slips : ByteArray := prog_12_method_53_code
def yX10_slips : MethodName := ⟨RX10, "slips", "(II)I"⟩
abbrev cX10_layCuts : ByteArray := prog_12_method_54_code
def yX10_layCuts : MethodName := ⟨RX10, "layCuts", "(II)Z"⟩
abbrev cX10_cheapest : ByteArray := prog_12_method_55_code
def yX10_cheapest : MethodName := ⟨RX10, "cheapest", "(IIIIII)I"⟩
abbrev cX10_tuned : ByteArray := prog_12_method_56_code
def yX10_tuned : MethodName := ⟨RX10, "tuned", "(III)I"⟩
abbrev cX10_plays : ByteArray := prog_12_method_57_code
def yX10_plays : MethodName := ⟨RX10, "plays", "(III)I"⟩
abbrev cX10_buzzNow : ByteArray := prog_12_method_58_code
def yX10_buzzNow : MethodName := ⟨RX10, "buzzNow", "()I"⟩
abbrev cX10_buzz : ByteArray := prog_12_method_59_code
def yX10_buzz : MethodName := ⟨RX10, "buzz", "(I)I"⟩
abbrev cX10_birds : ByteArray := prog_12_method_60_code
def yX10_birds : MethodName := ⟨RX10, "birds", "(IIIII)I"⟩
abbrev cX10_isNearLong : ByteArray := prog_12_method_61_code
def yX10_isNearLong : MethodName := ⟨RX10, "isNearLong", "(JJI)Z"⟩
abbrev cX10_hung : ByteArray := prog_12_method_62_code
def yX10_hung : MethodName := ⟨RX10, "hung", "(IIII)I"⟩
abbrev cX10_isLeft : ByteArray := prog_12_method_63_code
def yX10_isLeft : MethodName := ⟨RX10, "isLeft", "(III)Z"⟩
abbrev cX10_heardSet : ByteArray := prog_12_method_64_code
def yX10_heardSet : MethodName := ⟨RX10, "heardSet", "()I"⟩
abbrev cX10_missing : ByteArray := prog_12_method_65_code
def yX10_missing : MethodName := ⟨RX10, "missing", "(IIII)I"⟩
abbrev cX10_image : ByteArray := prog_12_method_66_code
def yX10_image : MethodName := ⟨RX10, "image", "(I)I"⟩
abbrev cX10_restore : ByteArray := prog_12_method_67_code
def yX10_restore : MethodName := ⟨RX10, "restore", "(I)I"⟩
abbrev cX10_kindOf : ByteArray := prog_12_method_68_code
def yX10_kindOf : MethodName := ⟨RX10, "kindOf", "(II)I"⟩
abbrev cX10_isOf : ByteArray := prog_12_method_69_code
def yX10_isOf : MethodName := ⟨RX10, "isOf", "(II)Z"⟩
abbrev cX10_kind : ByteArray := prog_12_method_70_code
def yX10_kind : MethodName := ⟨RX10, "kind", "(II)I"⟩
abbrev cX10_as : ByteArray := prog_12_method_71_code
def yX10_as : MethodName := ⟨RX10, "as", "(III)I"⟩
abbrev cX10_began : ByteArray := prog_12_method_72_code
def yX10_began : MethodName := ⟨RX10, "began", "(I)V"⟩
abbrev cX10_plainSize : ByteArray := prog_12_method_73_code
def yX10_plainSize : MethodName := ⟨RX10, "plainSize", "(I)I"⟩
abbrev cX10_muteSize : ByteArray := prog_12_method_74_code
def yX10_muteSize : MethodName := ⟨RX10, "muteSize", "(II)I"⟩
abbrev cX10_markOf : ByteArray := prog_12_method_75_code
def yX10_markOf : MethodName := ⟨RX10, "markOf", "(II)I"⟩
abbrev cX10_sizeOf : ByteArray := prog_12_method_76_code
def yX10_sizeOf : MethodName := ⟨RX10, "sizeOf", "(II)I"⟩
abbrev cX10_ask : ByteArray := prog_12_method_77_code
def yX10_ask : MethodName := ⟨RX10, "ask", "(III)I"⟩
abbrev cX10_trace : ByteArray := prog_12_method_78_code
def yX10_trace : MethodName := ⟨RX10, "trace", "(I)I"⟩
abbrev cX10_count : ByteArray := prog_12_method_79_code
def yX10_count : MethodName := ⟨RX10, "count", "(I)I"⟩
abbrev cX10_status : ByteArray := prog_12_method_80_code
def yX10_status : MethodName := ⟨RX10, "status", "()I"⟩
def RJ6 : String := "java/lang/Integer"
def TJ6 : u_T := fun k => match k with
  | _ => ("", "", "", false)
def tyJ6 : Nat → FieldType := fun k => match k with
  | _ => .int
theorem nmJ6 : ∀ a, a < 0 → ∀ b, b < 0 → a ≠ b → (TJ6 a).2.1 ≠ (TJ6 b).2.1 := by decide +kernel
theorem tyJ6_ok : ∀ k, k < 0 → parseFieldDescriptor (TJ6 k).2.2.1 = some (tyJ6 k) := by decide +kernel
abbrev cJ6_bitCount_0f7a4 : ByteArray := prog_13_method_49_code
def yJ6_bitCount_0f7a4 : MethodName := ⟨RJ6, "bitCount", "(I)I"⟩
def RJ9 : String := "java/lang/Math"
def TJ9 : u_T := fun k => match k with
  | _ => ("", "", "", false)
def tyJ9 : Nat → FieldType := fun k => match k with
  | _ => .int
theorem nmJ9 : ∀ a, a < 0 → ∀ b, b < 0 → a ≠ b → (TJ9 a).2.1 ≠ (TJ9 b).2.1 := by decide +kernel
theorem tyJ9_ok : ∀ k, k < 0 → parseFieldDescriptor (TJ9 k).2.2.1 = some (tyJ9 k) := by decide +kernel
abbrev cJ9_abs_0f7a4 : ByteArray := prog_14_method_59_code
def yJ9_abs_0f7a4 : MethodName := ⟨RJ9, "abs", "(I)I"⟩
abbrev cJ9_abs_067f4 : ByteArray := prog_14_method_61_code
def yJ9_abs_067f4 : MethodName := ⟨RJ9, "abs", "(J)J"⟩
abbrev cJ9_max_7cf53 : ByteArray := prog_14_method_65_code
def yJ9_max_7cf53 : MethodName := ⟨RJ9, "max", "(II)I"⟩
abbrev cJ9_min_7cf53 : ByteArray := prog_14_method_69_code
def yJ9_min_7cf53 : MethodName := ⟨RJ9, "min", "(II)I"⟩
def RJ0 : String := "java/lang/String"
def TJ0 : u_T := fun k => match k with
  | _ => ("", "", "", false)
def tyJ0 : Nat → FieldType := fun k => match k with
  | _ => .int
theorem nmJ0 : ∀ a, a < 0 → ∀ b, b < 0 → a ≠ b → (TJ0 a).2.1 ≠ (TJ0 b).2.1 := by decide +kernel
theorem tyJ0_ok : ∀ k, k < 0 → parseFieldDescriptor (TJ0 k).2.2.1 = some (tyJ0 k) := by decide +kernel
abbrev cJ0_length_8abf5 : ByteArray := prog_15_method_54_code
def yJ0_length_8abf5 : MethodName := ⟨RJ0, "length", "()I"⟩
abbrev cJ0_charAt_5068e : ByteArray := prog_15_method_56_code
def yJ0_charAt_5068e : MethodName := ⟨RJ0, "charAt", "(I)C"⟩
abbrev cJ0_coder_7d493 : ByteArray := prog_15_method_152_code
def yJ0_coder_7d493 : MethodName := ⟨RJ0, "coder", "()B"⟩
abbrev cJ0_isLatin1_aae02 : ByteArray := prog_15_method_154_code
def yJ0_isLatin1_aae02 : MethodName := ⟨RJ0, "isLatin1", "()Z"⟩
abbrev cJ0_checkIndex_df160 : ByteArray := prog_15_method_155_code
def yJ0_checkIndex_df160 : MethodName := ⟨RJ0, "checkIndex", "(II)V"⟩
def RJ1 : String := "java/lang/StringLatin1"
def TJ1 : u_T := fun k => match k with
  | _ => ("", "", "", false)
def tyJ1 : Nat → FieldType := fun k => match k with
  | _ => .int
theorem nmJ1 : ∀ a, a < 0 → ∀ b, b < 0 → a ≠ b → (TJ1 a).2.1 ≠ (TJ1 b).2.1 := by decide +kernel
theorem tyJ1_ok : ∀ k, k < 0 → parseFieldDescriptor (TJ1 k).2.2.1 = some (tyJ1 k) := by decide +kernel
abbrev cJ1_charAt_3b067 : ByteArray := prog_16_method_2_code
def yJ1_charAt_3b067 : MethodName := ⟨RJ1, "charAt", "([BI)C"⟩
def RJ2 : String := "java/lang/StringUTF16"
def TJ2 : u_T := fun k => match k with
  | _ => ("", "", "", false)
def tyJ2 : Nat → FieldType := fun k => match k with
  | _ => .int
theorem nmJ2 : ∀ a, a < 0 → ∀ b, b < 0 → a ≠ b → (TJ2 a).2.1 ≠ (TJ2 b).2.1 := by decide +kernel
theorem tyJ2_ok : ∀ k, k < 0 → parseFieldDescriptor (TJ2 k).2.2.1 = some (tyJ2 k) := by decide +kernel
abbrev cJ2_getChar_3b067 : ByteArray := prog_17_method_5_code
def yJ2_getChar_3b067 : MethodName := ⟨RJ2, "getChar", "([BI)C"⟩
abbrev cJ2_length_9d52b : ByteArray := prog_17_method_6_code
def yJ2_length_9d52b : MethodName := ⟨RJ2, "length", "([B)I"⟩
abbrev cJ2_charAt_3b067 : ByteArray := prog_17_method_83_code
def yJ2_charAt_3b067 : MethodName := ⟨RJ2, "charAt", "([BI)C"⟩
abbrev cJ2_checkIndex_2214a : ByteArray := prog_17_method_91_code
def yJ2_checkIndex_2214a : MethodName := ⟨RJ2, "checkIndex", "(I[B)V"⟩
def RJ10 : String := "java/lang/System"
def TJ10 : u_T := fun k => match k with
  | _ => ("", "", "", false)
def tyJ10 : Nat → FieldType := fun k => match k with
  | _ => .int
theorem nmJ10 : ∀ a, a < 0 → ∀ b, b < 0 → a ≠ b → (TJ10 a).2.1 ≠ (TJ10 b).2.1 := by decide +kernel
theorem tyJ10_ok : ∀ k, k < 0 → parseFieldDescriptor (TJ10 k).2.2.1 = some (tyJ10 k) := by decide +kernel
def RJ3 : String := "jdk/internal/util/Preconditions"
def TJ3 : u_T := fun k => match k with
  | _ => ("", "", "", false)
def tyJ3 : Nat → FieldType := fun k => match k with
  | _ => .int
theorem nmJ3 : ∀ a, a < 0 → ∀ b, b < 0 → a ≠ b → (TJ3 a).2.1 ≠ (TJ3 b).2.1 := by decide +kernel
theorem tyJ3_ok : ∀ k, k < 0 → parseFieldDescriptor (TJ3 k).2.2.1 = some (tyJ3 k) := by decide +kernel
abbrev cJ3_checkIndex_8e157 : ByteArray := prog_19_method_11_code
def yJ3_checkIndex_8e157 : MethodName := ⟨RJ3, "checkIndex", "(IILjava/util/function/BiFunction;)I"⟩
def RL : String := "WindHarpLaw"
abbrev cL_law : ByteArray := code
def yL_law : MethodName := ⟨RL, "law", "([I)Z"⟩
abbrev vwCl : List vw_C := [(RX0, TX0, 6), (RX1, TX1, 2), (RX2, TX2, 4), (RX3, TX3, 4), (RX4, TX4, 7), (RX5, TX5, 4), (RX6, TX6, 7), (RX7, TX7, 4), (RX8, TX8, 8), (RX9, TX9, 13), (RX10, TX10, 35)]
