section
-- ===== PART A: goes FIRST, ahead of the names: the tables' words, and 'selects' of the private methods out of them =====
/-- a private method of a class that the tables say can be made, by its rows of tables_1 -/
def lw_okq (q : MethodName × Nat) : Prop := (q.1.cls ≠ "java/lang/invoke/MethodHandle" ∧ q.1.cls ≠ "java/lang/invoke/VarHandle") ∧ Cond.instantiable q.1.cls q.2 ∈ tables_1 ∧ Cond.privateMethod q.1 ∈ tables_1 ∧ Cond.instanceMethod q.1 ∈ tables_1
theorem lw_p0 : lw_okq (⟨"PencilForms$TextReader", "readToken", "()Z"⟩, 12) := ⟨⟨by decide +kernel, by decide +kernel⟩, List.mem_of_getElem? (i := 24) (by decide +kernel), List.mem_of_getElem? (i := 229) (by decide +kernel), List.mem_of_getElem? (i := 230) (by decide +kernel)⟩
theorem lw_p1 : lw_okq (⟨"PencilForms$TextReader", "endOfRun", "(CC)I"⟩, 12) := ⟨⟨by decide +kernel, by decide +kernel⟩, List.mem_of_getElem? (i := 24) (by decide +kernel), List.mem_of_getElem? (i := 233) (by decide +kernel), List.mem_of_getElem? (i := 234) (by decide +kernel)⟩
theorem lw_p2 : lw_okq (⟨"PencilForms$TextReader", "takeNumber", "()Z"⟩, 12) := ⟨⟨by decide +kernel, by decide +kernel⟩, List.mem_of_getElem? (i := 24) (by decide +kernel), List.mem_of_getElem? (i := 237) (by decide +kernel), List.mem_of_getElem? (i := 238) (by decide +kernel)⟩
theorem lw_p3 : lw_okq (⟨"PencilForms$TextReader", "stopAt", "(II)Z"⟩, 12) := ⟨⟨by decide +kernel, by decide +kernel⟩, List.mem_of_getElem? (i := 24) (by decide +kernel), List.mem_of_getElem? (i := 241) (by decide +kernel), List.mem_of_getElem? (i := 242) (by decide +kernel)⟩
theorem lw_p4 : lw_okq (⟨"PencilForms$TextReader", "readLine", "()Z"⟩, 12) := ⟨⟨by decide +kernel, by decide +kernel⟩, List.mem_of_getElem? (i := 24) (by decide +kernel), List.mem_of_getElem? (i := 245) (by decide +kernel), List.mem_of_getElem? (i := 246) (by decide +kernel)⟩
theorem lw_p5 : lw_okq (⟨"PencilForms$TextReader", "lineOfName", "()I"⟩, 12) := ⟨⟨by decide +kernel, by decide +kernel⟩, List.mem_of_getElem? (i := 24) (by decide +kernel), List.mem_of_getElem? (i := 249) (by decide +kernel), List.mem_of_getElem? (i := 250) (by decide +kernel)⟩
theorem lw_p6 : lw_okq (⟨"PencilForms$TextReader", "nameIs", "(Ljava/lang/String;)Z"⟩, 12) := ⟨⟨by decide +kernel, by decide +kernel⟩, List.mem_of_getElem? (i := 24) (by decide +kernel), List.mem_of_getElem? (i := 254) (by decide +kernel), List.mem_of_getElem? (i := 255) (by decide +kernel)⟩
theorem lw_p7 : lw_okq (⟨"PencilForms$TextReader", "readPrime", "()Z"⟩, 12) := ⟨⟨by decide +kernel, by decide +kernel⟩, List.mem_of_getElem? (i := 24) (by decide +kernel), List.mem_of_getElem? (i := 310) (by decide +kernel), List.mem_of_getElem? (i := 311) (by decide +kernel)⟩
theorem lw_p8 : lw_okq (⟨"PencilForms$TextReader", "readNumber", "(II)Z"⟩, 12) := ⟨⟨by decide +kernel, by decide +kernel⟩, List.mem_of_getElem? (i := 24) (by decide +kernel), List.mem_of_getElem? (i := 314) (by decide +kernel), List.mem_of_getElem? (i := 315) (by decide +kernel)⟩
theorem lw_p9 : lw_okq (⟨"PencilForms$TextReader", "readBlock", "(I)Z"⟩, 12) := ⟨⟨by decide +kernel, by decide +kernel⟩, List.mem_of_getElem? (i := 24) (by decide +kernel), List.mem_of_getElem? (i := 318) (by decide +kernel), List.mem_of_getElem? (i := 319) (by decide +kernel)⟩
theorem lw_p10 : lw_okq (⟨"PencilForms$TextReader", "putBlock", "(IIII)V"⟩, 12) := ⟨⟨by decide +kernel, by decide +kernel⟩, List.mem_of_getElem? (i := 24) (by decide +kernel), List.mem_of_getElem? (i := 325) (by decide +kernel), List.mem_of_getElem? (i := 326) (by decide +kernel)⟩
theorem lw_p11 : lw_okq (⟨"PencilForms$Underneath", "countIndices", "(LPencilForms$Pair;[I)I"⟩, 5) := ⟨⟨by decide +kernel, by decide +kernel⟩, List.mem_of_getElem? (i := 127) (by decide +kernel), List.mem_of_getElem? (i := 366) (by decide +kernel), List.mem_of_getElem? (i := 367) (by decide +kernel)⟩
theorem lw_p12 : lw_okq (⟨"PencilForms$Equations", "putNumber", "(III)V"⟩, 4) := ⟨⟨by decide +kernel, by decide +kernel⟩, List.mem_of_getElem? (i := 135) (by decide +kernel), List.mem_of_getElem? (i := 391) (by decide +kernel), List.mem_of_getElem? (i := 392) (by decide +kernel)⟩
theorem lw_p13 : lw_okq (⟨"PencilForms$Equations", "findPivot", "(II)I"⟩, 4) := ⟨⟨by decide +kernel, by decide +kernel⟩, List.mem_of_getElem? (i := 135) (by decide +kernel), List.mem_of_getElem? (i := 399) (by decide +kernel), List.mem_of_getElem? (i := 400) (by decide +kernel)⟩
theorem lw_p14 : lw_okq (⟨"PencilForms$Equations", "exchangeRows", "(III)V"⟩, 4) := ⟨⟨by decide +kernel, by decide +kernel⟩, List.mem_of_getElem? (i := 135) (by decide +kernel), List.mem_of_getElem? (i := 403) (by decide +kernel), List.mem_of_getElem? (i := 404) (by decide +kernel)⟩
theorem lw_p15 : lw_okq (⟨"PencilForms$Equations", "clearBelow", "(II)V"⟩, 4) := ⟨⟨by decide +kernel, by decide +kernel⟩, List.mem_of_getElem? (i := 135) (by decide +kernel), List.mem_of_getElem? (i := 407) (by decide +kernel), List.mem_of_getElem? (i := 408) (by decide +kernel)⟩
def lw_privs_1 : List (MethodName × Nat) := [(⟨"PencilForms$TextReader", "readToken", "()Z"⟩, 12), (⟨"PencilForms$TextReader", "endOfRun", "(CC)I"⟩, 12), (⟨"PencilForms$TextReader", "takeNumber", "()Z"⟩, 12), (⟨"PencilForms$TextReader", "stopAt", "(II)Z"⟩, 12), (⟨"PencilForms$TextReader", "readLine", "()Z"⟩, 12), (⟨"PencilForms$TextReader", "lineOfName", "()I"⟩, 12), (⟨"PencilForms$TextReader", "nameIs", "(Ljava/lang/String;)Z"⟩, 12), (⟨"PencilForms$TextReader", "readPrime", "()Z"⟩, 12), (⟨"PencilForms$TextReader", "readNumber", "(II)Z"⟩, 12), (⟨"PencilForms$TextReader", "readBlock", "(I)Z"⟩, 12), (⟨"PencilForms$TextReader", "putBlock", "(IIII)V"⟩, 12), (⟨"PencilForms$Underneath", "countIndices", "(LPencilForms$Pair;[I)I"⟩, 5), (⟨"PencilForms$Equations", "putNumber", "(III)V"⟩, 4), (⟨"PencilForms$Equations", "findPivot", "(II)I"⟩, 4), (⟨"PencilForms$Equations", "exchangeRows", "(III)V"⟩, 4), (⟨"PencilForms$Equations", "clearBelow", "(II)V"⟩, 4)]
theorem lw_r1 : ∀ q ∈ lw_privs_1, lw_okq q := List.forall_mem_cons.mpr ⟨lw_p0, List.forall_mem_cons.mpr ⟨lw_p1, List.forall_mem_cons.mpr ⟨lw_p2, List.forall_mem_cons.mpr ⟨lw_p3, List.forall_mem_cons.mpr ⟨lw_p4, List.forall_mem_cons.mpr ⟨lw_p5, List.forall_mem_cons.mpr ⟨lw_p6, List.forall_mem_cons.mpr ⟨lw_p7, List.forall_mem_cons.mpr ⟨lw_p8, List.forall_mem_cons.mpr ⟨lw_p9, List.forall_mem_cons.mpr ⟨lw_p10, List.forall_mem_cons.mpr ⟨lw_p11, List.forall_mem_cons.mpr ⟨lw_p12, List.forall_mem_cons.mpr ⟨lw_p13, List.forall_mem_cons.mpr ⟨lw_p14, List.forall_mem_cons.mpr ⟨lw_p15, fun _ h => absurd h List.not_mem_nil⟩⟩⟩⟩⟩⟩⟩⟩⟩⟩⟩⟩⟩⟩⟩⟩
theorem lw_p16 : lw_okq (⟨"PencilForms$Underneath", "flippedOf", "(LPencilForms$Pair;)LPencilForms$Pair;"⟩, 5) := ⟨⟨by decide +kernel, by decide +kernel⟩, List.mem_of_getElem? (i := 127) (by decide +kernel), List.mem_of_getElem? (i := 415) (by decide +kernel), List.mem_of_getElem? (i := 416) (by decide +kernel)⟩
theorem lw_p17 : lw_okq (⟨"PencilForms$Pair", "exchangeSpots", "(II)V"⟩, 4) := ⟨⟨by decide +kernel, by decide +kernel⟩, List.mem_of_getElem? (i := 30) (by decide +kernel), List.mem_of_getElem? (i := 424) (by decide +kernel), List.mem_of_getElem? (i := 425) (by decide +kernel)⟩
theorem lw_p18 : lw_okq (⟨"PencilForms$Underneath", "putChains", "(LPencilForms$Pair;II)V"⟩, 5) := ⟨⟨by decide +kernel, by decide +kernel⟩, List.mem_of_getElem? (i := 127) (by decide +kernel), List.mem_of_getElem? (i := 436) (by decide +kernel), List.mem_of_getElem? (i := 437) (by decide +kernel)⟩
theorem lw_p19 : lw_okq (⟨"PencilForms", "isX", "(I)Z"⟩, 10) := ⟨⟨by decide +kernel, by decide +kernel⟩, List.mem_of_getElem? (i := 16) (by decide +kernel), List.mem_of_getElem? (i := 454) (by decide +kernel), List.mem_of_getElem? (i := 455) (by decide +kernel)⟩
theorem lw_p20 : lw_okq (⟨"PencilForms", "maySet", "(IIII)Z"⟩, 10) := ⟨⟨by decide +kernel, by decide +kernel⟩, List.mem_of_getElem? (i := 16) (by decide +kernel), List.mem_of_getElem? (i := 538) (by decide +kernel), List.mem_of_getElem? (i := 539) (by decide +kernel)⟩
theorem lw_p21 : lw_okq (⟨"PencilForms", "mayMix", "(IIII)Z"⟩, 10) := ⟨⟨by decide +kernel, by decide +kernel⟩, List.mem_of_getElem? (i := 16) (by decide +kernel), List.mem_of_getElem? (i := 573) (by decide +kernel), List.mem_of_getElem? (i := 574) (by decide +kernel)⟩
theorem lw_p22 : lw_okq (⟨"PencilForms", "isFactor", "(I)Z"⟩, 10) := ⟨⟨by decide +kernel, by decide +kernel⟩, List.mem_of_getElem? (i := 16) (by decide +kernel), List.mem_of_getElem? (i := 583) (by decide +kernel), List.mem_of_getElem? (i := 584) (by decide +kernel)⟩
theorem lw_p23 : lw_okq (⟨"PencilForms$Pair", "onLine", "(IIII)I"⟩, 4) := ⟨⟨by decide +kernel, by decide +kernel⟩, List.mem_of_getElem? (i := 30) (by decide +kernel), List.mem_of_getElem? (i := 591) (by decide +kernel), List.mem_of_getElem? (i := 592) (by decide +kernel)⟩
theorem lw_p24 : lw_okq (⟨"PencilForms$Pair", "putOnLine", "(IIIII)V"⟩, 4) := ⟨⟨by decide +kernel, by decide +kernel⟩, List.mem_of_getElem? (i := 30) (by decide +kernel), List.mem_of_getElem? (i := 597) (by decide +kernel), List.mem_of_getElem? (i := 598) (by decide +kernel)⟩
theorem lw_p25 : lw_okq (⟨"PencilForms", "mixByNumber", "(I)Z"⟩, 10) := ⟨⟨by decide +kernel, by decide +kernel⟩, List.mem_of_getElem? (i := 16) (by decide +kernel), List.mem_of_getElem? (i := 622) (by decide +kernel), List.mem_of_getElem? (i := 623) (by decide +kernel)⟩
theorem lw_p26 : lw_okq (⟨"PencilForms", "maySetFrom", "(LPencilForms$Sheet;I)Z"⟩, 10) := ⟨⟨by decide +kernel, by decide +kernel⟩, List.mem_of_getElem? (i := 16) (by decide +kernel), List.mem_of_getElem? (i := 704) (by decide +kernel), List.mem_of_getElem? (i := 705) (by decide +kernel)⟩
theorem lw_p27 : lw_okq (⟨"PencilForms", "setFrom", "(LPencilForms$Sheet;I)V"⟩, 10) := ⟨⟨by decide +kernel, by decide +kernel⟩, List.mem_of_getElem? (i := 16) (by decide +kernel), List.mem_of_getElem? (i := 712) (by decide +kernel), List.mem_of_getElem? (i := 713) (by decide +kernel)⟩
theorem lw_p28 : lw_okq (⟨"PencilFormsModel", "reads", "()V"⟩, 30) := ⟨⟨by decide +kernel, by decide +kernel⟩, List.mem_of_getElem? (i := 733) (by decide +kernel), List.mem_of_getElem? (i := 846) (by decide +kernel), List.mem_of_getElem? (i := 847) (by decide +kernel)⟩
theorem lw_p29 : lw_okq (⟨"PencilFormsModel", "byteAt", "(I)I"⟩, 30) := ⟨⟨by decide +kernel, by decide +kernel⟩, List.mem_of_getElem? (i := 733) (by decide +kernel), List.mem_of_getElem? (i := 850) (by decide +kernel), List.mem_of_getElem? (i := 851) (by decide +kernel)⟩
theorem lw_p30 : lw_okq (⟨"PencilFormsModel", "requires", "(ZI)V"⟩, 30) := ⟨⟨by decide +kernel, by decide +kernel⟩, List.mem_of_getElem? (i := 733) (by decide +kernel), List.mem_of_getElem? (i := 858) (by decide +kernel), List.mem_of_getElem? (i := 859) (by decide +kernel)⟩
theorem lw_p31 : lw_okq (⟨"PencilFormsModel", "readLine", "()V"⟩, 30) := ⟨⟨by decide +kernel, by decide +kernel⟩, List.mem_of_getElem? (i := 733) (by decide +kernel), List.mem_of_getElem? (i := 862) (by decide +kernel), List.mem_of_getElem? (i := 863) (by decide +kernel)⟩
def lw_privs_2 : List (MethodName × Nat) := [(⟨"PencilForms$Underneath", "flippedOf", "(LPencilForms$Pair;)LPencilForms$Pair;"⟩, 5), (⟨"PencilForms$Pair", "exchangeSpots", "(II)V"⟩, 4), (⟨"PencilForms$Underneath", "putChains", "(LPencilForms$Pair;II)V"⟩, 5), (⟨"PencilForms", "isX", "(I)Z"⟩, 10), (⟨"PencilForms", "maySet", "(IIII)Z"⟩, 10), (⟨"PencilForms", "mayMix", "(IIII)Z"⟩, 10), (⟨"PencilForms", "isFactor", "(I)Z"⟩, 10), (⟨"PencilForms$Pair", "onLine", "(IIII)I"⟩, 4), (⟨"PencilForms$Pair", "putOnLine", "(IIIII)V"⟩, 4), (⟨"PencilForms", "mixByNumber", "(I)Z"⟩, 10), (⟨"PencilForms", "maySetFrom", "(LPencilForms$Sheet;I)Z"⟩, 10), (⟨"PencilForms", "setFrom", "(LPencilForms$Sheet;I)V"⟩, 10), (⟨"PencilFormsModel", "reads", "()V"⟩, 30), (⟨"PencilFormsModel", "byteAt", "(I)I"⟩, 30), (⟨"PencilFormsModel", "requires", "(ZI)V"⟩, 30), (⟨"PencilFormsModel", "readLine", "()V"⟩, 30)]
theorem lw_r2 : ∀ q ∈ lw_privs_2, lw_okq q := List.forall_mem_cons.mpr ⟨lw_p16, List.forall_mem_cons.mpr ⟨lw_p17, List.forall_mem_cons.mpr ⟨lw_p18, List.forall_mem_cons.mpr ⟨lw_p19, List.forall_mem_cons.mpr ⟨lw_p20, List.forall_mem_cons.mpr ⟨lw_p21, List.forall_mem_cons.mpr ⟨lw_p22, List.forall_mem_cons.mpr ⟨lw_p23, List.forall_mem_cons.mpr ⟨lw_p24, List.forall_mem_cons.mpr ⟨lw_p25, List.forall_mem_cons.mpr ⟨lw_p26, List.forall_mem_cons.mpr ⟨lw_p27, List.forall_mem_cons.mpr ⟨lw_p28, List.forall_mem_cons.mpr ⟨lw_p29, List.forall_mem_cons.mpr ⟨lw_p30, List.forall_mem_cons.mpr ⟨lw_p31, fun _ h => absurd h List.not_mem_nil⟩⟩⟩⟩⟩⟩⟩⟩⟩⟩⟩⟩⟩⟩⟩⟩
theorem lw_p32 : lw_okq (⟨"PencilFormsModel", "lineNow", "()I"⟩, 30) := ⟨⟨by decide +kernel, by decide +kernel⟩, List.mem_of_getElem? (i := 733) (by decide +kernel), List.mem_of_getElem? (i := 866) (by decide +kernel), List.mem_of_getElem? (i := 867) (by decide +kernel)⟩
theorem lw_p33 : lw_okq (⟨"PencilFormsModel", "is", "(IIII)Z"⟩, 30) := ⟨⟨by decide +kernel, by decide +kernel⟩, List.mem_of_getElem? (i := 733) (by decide +kernel), List.mem_of_getElem? (i := 870) (by decide +kernel), List.mem_of_getElem? (i := 871) (by decide +kernel)⟩
theorem lw_p34 : lw_okq (⟨"PencilFormsModel", "readLineOf", "(I)V"⟩, 30) := ⟨⟨by decide +kernel, by decide +kernel⟩, List.mem_of_getElem? (i := 733) (by decide +kernel), List.mem_of_getElem? (i := 874) (by decide +kernel), List.mem_of_getElem? (i := 875) (by decide +kernel)⟩
theorem lw_p35 : lw_okq (⟨"PencilFormsModel", "readNumber", "(II)I"⟩, 30) := ⟨⟨by decide +kernel, by decide +kernel⟩, List.mem_of_getElem? (i := 733) (by decide +kernel), List.mem_of_getElem? (i := 878) (by decide +kernel), List.mem_of_getElem? (i := 879) (by decide +kernel)⟩
theorem lw_p36 : lw_okq (⟨"PencilFormsModel", "blockComes", "(III)V"⟩, 30) := ⟨⟨by decide +kernel, by decide +kernel⟩, List.mem_of_getElem? (i := 733) (by decide +kernel), List.mem_of_getElem? (i := 885) (by decide +kernel), List.mem_of_getElem? (i := 886) (by decide +kernel)⟩
theorem lw_p37 : lw_okq (⟨"PencilFormsModel", "draws", "(IIII)V"⟩, 30) := ⟨⟨by decide +kernel, by decide +kernel⟩, List.mem_of_getElem? (i := 733) (by decide +kernel), List.mem_of_getElem? (i := 889) (by decide +kernel), List.mem_of_getElem? (i := 890) (by decide +kernel)⟩
theorem lw_p38 : lw_okq (⟨"PencilFormsModel", "findAllIndices", "()V"⟩, 30) := ⟨⟨by decide +kernel, by decide +kernel⟩, List.mem_of_getElem? (i := 733) (by decide +kernel), List.mem_of_getElem? (i := 901) (by decide +kernel), List.mem_of_getElem? (i := 902) (by decide +kernel)⟩
theorem lw_p39 : lw_okq (⟨"PencilFormsModel", "findIndices", "([I)V"⟩, 30) := ⟨⟨by decide +kernel, by decide +kernel⟩, List.mem_of_getElem? (i := 733) (by decide +kernel), List.mem_of_getElem? (i := 905) (by decide +kernel), List.mem_of_getElem? (i := 906) (by decide +kernel)⟩
theorem lw_p40 : lw_okq (⟨"PencilFormsModel", "nullsOf", "(I)I"⟩, 30) := ⟨⟨by decide +kernel, by decide +kernel⟩, List.mem_of_getElem? (i := 733) (by decide +kernel), List.mem_of_getElem? (i := 909) (by decide +kernel), List.mem_of_getElem? (i := 910) (by decide +kernel)⟩
theorem lw_p41 : lw_okq (⟨"PencilFormsModel", "startsLarge", "(II)V"⟩, 30) := ⟨⟨by decide +kernel, by decide +kernel⟩, List.mem_of_getElem? (i := 733) (by decide +kernel), List.mem_of_getElem? (i := 913) (by decide +kernel), List.mem_of_getElem? (i := 914) (by decide +kernel)⟩
theorem lw_p42 : lw_okq (⟨"PencilFormsModel", "rowsNow", "()I"⟩, 30) := ⟨⟨by decide +kernel, by decide +kernel⟩, List.mem_of_getElem? (i := 733) (by decide +kernel), List.mem_of_getElem? (i := 917) (by decide +kernel), List.mem_of_getElem? (i := 918) (by decide +kernel)⟩
theorem lw_p43 : lw_okq (⟨"PencilFormsModel", "columnsNow", "()I"⟩, 30) := ⟨⟨by decide +kernel, by decide +kernel⟩, List.mem_of_getElem? (i := 733) (by decide +kernel), List.mem_of_getElem? (i := 921) (by decide +kernel), List.mem_of_getElem? (i := 922) (by decide +kernel)⟩
theorem lw_p44 : lw_okq (⟨"PencilFormsModel", "adds", "(IIII)V"⟩, 30) := ⟨⟨by decide +kernel, by decide +kernel⟩, List.mem_of_getElem? (i := 733) (by decide +kernel), List.mem_of_getElem? (i := 925) (by decide +kernel), List.mem_of_getElem? (i := 926) (by decide +kernel)⟩
theorem lw_p45 : lw_okq (⟨"PencilFormsModel", "entry", "(III)I"⟩, 30) := ⟨⟨by decide +kernel, by decide +kernel⟩, List.mem_of_getElem? (i := 733) (by decide +kernel), List.mem_of_getElem? (i := 929) (by decide +kernel), List.mem_of_getElem? (i := 930) (by decide +kernel)⟩
theorem lw_p46 : lw_okq (⟨"PencilFormsModel", "of", "(III)I"⟩, 30) := ⟨⟨by decide +kernel, by decide +kernel⟩, List.mem_of_getElem? (i := 733) (by decide +kernel), List.mem_of_getElem? (i := 933) (by decide +kernel), List.mem_of_getElem? (i := 934) (by decide +kernel)⟩
theorem lw_p47 : lw_okq (⟨"PencilFormsModel", "modulo", "(I)I"⟩, 30) := ⟨⟨by decide +kernel, by decide +kernel⟩, List.mem_of_getElem? (i := 733) (by decide +kernel), List.mem_of_getElem? (i := 937) (by decide +kernel), List.mem_of_getElem? (i := 938) (by decide +kernel)⟩
def lw_privs_3 : List (MethodName × Nat) := [(⟨"PencilFormsModel", "lineNow", "()I"⟩, 30), (⟨"PencilFormsModel", "is", "(IIII)Z"⟩, 30), (⟨"PencilFormsModel", "readLineOf", "(I)V"⟩, 30), (⟨"PencilFormsModel", "readNumber", "(II)I"⟩, 30), (⟨"PencilFormsModel", "blockComes", "(III)V"⟩, 30), (⟨"PencilFormsModel", "draws", "(IIII)V"⟩, 30), (⟨"PencilFormsModel", "findAllIndices", "()V"⟩, 30), (⟨"PencilFormsModel", "findIndices", "([I)V"⟩, 30), (⟨"PencilFormsModel", "nullsOf", "(I)I"⟩, 30), (⟨"PencilFormsModel", "startsLarge", "(II)V"⟩, 30), (⟨"PencilFormsModel", "rowsNow", "()I"⟩, 30), (⟨"PencilFormsModel", "columnsNow", "()I"⟩, 30), (⟨"PencilFormsModel", "adds", "(IIII)V"⟩, 30), (⟨"PencilFormsModel", "entry", "(III)I"⟩, 30), (⟨"PencilFormsModel", "of", "(III)I"⟩, 30), (⟨"PencilFormsModel", "modulo", "(I)I"⟩, 30)]
theorem lw_r3 : ∀ q ∈ lw_privs_3, lw_okq q := List.forall_mem_cons.mpr ⟨lw_p32, List.forall_mem_cons.mpr ⟨lw_p33, List.forall_mem_cons.mpr ⟨lw_p34, List.forall_mem_cons.mpr ⟨lw_p35, List.forall_mem_cons.mpr ⟨lw_p36, List.forall_mem_cons.mpr ⟨lw_p37, List.forall_mem_cons.mpr ⟨lw_p38, List.forall_mem_cons.mpr ⟨lw_p39, List.forall_mem_cons.mpr ⟨lw_p40, List.forall_mem_cons.mpr ⟨lw_p41, List.forall_mem_cons.mpr ⟨lw_p42, List.forall_mem_cons.mpr ⟨lw_p43, List.forall_mem_cons.mpr ⟨lw_p44, List.forall_mem_cons.mpr ⟨lw_p45, List.forall_mem_cons.mpr ⟨lw_p46, List.forall_mem_cons.mpr ⟨lw_p47, fun _ h => absurd h List.not_mem_nil⟩⟩⟩⟩⟩⟩⟩⟩⟩⟩⟩⟩⟩⟩⟩⟩
theorem lw_p48 : lw_okq (⟨"PencilFormsModel", "dimension", "()I"⟩, 30) := ⟨⟨by decide +kernel, by decide +kernel⟩, List.mem_of_getElem? (i := 733) (by decide +kernel), List.mem_of_getElem? (i := 941) (by decide +kernel), List.mem_of_getElem? (i := 942) (by decide +kernel)⟩
theorem lw_p49 : lw_okq (⟨"PencilFormsModel", "rankOf", "(I)I"⟩, 30) := ⟨⟨by decide +kernel, by decide +kernel⟩, List.mem_of_getElem? (i := 733) (by decide +kernel), List.mem_of_getElem? (i := 945) (by decide +kernel), List.mem_of_getElem? (i := 946) (by decide +kernel)⟩
theorem lw_p50 : lw_okq (⟨"PencilFormsModel", "pivotFor", "(II)I"⟩, 30) := ⟨⟨by decide +kernel, by decide +kernel⟩, List.mem_of_getElem? (i := 733) (by decide +kernel), List.mem_of_getElem? (i := 949) (by decide +kernel), List.mem_of_getElem? (i := 950) (by decide +kernel)⟩
theorem lw_p51 : lw_okq (⟨"PencilFormsModel", "largeSwaps", "(II)V"⟩, 30) := ⟨⟨by decide +kernel, by decide +kernel⟩, List.mem_of_getElem? (i := 733) (by decide +kernel), List.mem_of_getElem? (i := 953) (by decide +kernel), List.mem_of_getElem? (i := 954) (by decide +kernel)⟩
theorem lw_p52 : lw_okq (⟨"PencilFormsModel", "inverse", "(I)I"⟩, 30) := ⟨⟨by decide +kernel, by decide +kernel⟩, List.mem_of_getElem? (i := 733) (by decide +kernel), List.mem_of_getElem? (i := 957) (by decide +kernel), List.mem_of_getElem? (i := 958) (by decide +kernel)⟩
theorem lw_p53 : lw_okq (⟨"PencilFormsModel", "largeLoses", "(III)V"⟩, 30) := ⟨⟨by decide +kernel, by decide +kernel⟩, List.mem_of_getElem? (i := 733) (by decide +kernel), List.mem_of_getElem? (i := 961) (by decide +kernel), List.mem_of_getElem? (i := 962) (by decide +kernel)⟩
theorem lw_p54 : lw_okq (⟨"PencilFormsModel", "lengthsAt", "(I)I"⟩, 30) := ⟨⟨by decide +kernel, by decide +kernel⟩, List.mem_of_getElem? (i := 733) (by decide +kernel), List.mem_of_getElem? (i := 968) (by decide +kernel), List.mem_of_getElem? (i := 969) (by decide +kernel)⟩
theorem lw_p55 : lw_okq (⟨"PencilFormsModel", "findLong", "(I)V"⟩, 30) := ⟨⟨by decide +kernel, by decide +kernel⟩, List.mem_of_getElem? (i := 733) (by decide +kernel), List.mem_of_getElem? (i := 972) (by decide +kernel), List.mem_of_getElem? (i := 973) (by decide +kernel)⟩
theorem lw_p56 : lw_okq (⟨"PencilFormsModel", "chainsOf", "(II)I"⟩, 30) := ⟨⟨by decide +kernel, by decide +kernel⟩, List.mem_of_getElem? (i := 733) (by decide +kernel), List.mem_of_getElem? (i := 976) (by decide +kernel), List.mem_of_getElem? (i := 977) (by decide +kernel)⟩
theorem lw_p57 : lw_okq (⟨"PencilFormsModel", "addsAt", "(III)V"⟩, 30) := ⟨⟨by decide +kernel, by decide +kernel⟩, List.mem_of_getElem? (i := 733) (by decide +kernel), List.mem_of_getElem? (i := 980) (by decide +kernel), List.mem_of_getElem? (i := 981) (by decide +kernel)⟩
theorem lw_p58 : lw_okq (⟨"PencilFormsModel", "lengthsBut", "()I"⟩, 30) := ⟨⟨by decide +kernel, by decide +kernel⟩, List.mem_of_getElem? (i := 733) (by decide +kernel), List.mem_of_getElem? (i := 984) (by decide +kernel), List.mem_of_getElem? (i := 985) (by decide +kernel)⟩
theorem lw_p59 : lw_okq (⟨"PencilFormsModel", "rest", "()I"⟩, 30) := ⟨⟨by decide +kernel, by decide +kernel⟩, List.mem_of_getElem? (i := 733) (by decide +kernel), List.mem_of_getElem? (i := 988) (by decide +kernel), List.mem_of_getElem? (i := 989) (by decide +kernel)⟩
theorem lw_p60 : lw_okq (⟨"PencilFormsModel", "isTable", "(I)Z"⟩, 30) := ⟨⟨by decide +kernel, by decide +kernel⟩, List.mem_of_getElem? (i := 733) (by decide +kernel), List.mem_of_getElem? (i := 996) (by decide +kernel), List.mem_of_getElem? (i := 997) (by decide +kernel)⟩
theorem lw_p61 : lw_okq (⟨"PencilFormsModel", "isPlace", "(II)Z"⟩, 30) := ⟨⟨by decide +kernel, by decide +kernel⟩, List.mem_of_getElem? (i := 733) (by decide +kernel), List.mem_of_getElem? (i := 1000) (by decide +kernel), List.mem_of_getElem? (i := 1001) (by decide +kernel)⟩
theorem lw_p62 : lw_okq (⟨"PencilFormsModel", "isX", "(I)Z"⟩, 30) := ⟨⟨by decide +kernel, by decide +kernel⟩, List.mem_of_getElem? (i := 733) (by decide +kernel), List.mem_of_getElem? (i := 1008) (by decide +kernel), List.mem_of_getElem? (i := 1009) (by decide +kernel)⟩
theorem lw_p63 : lw_okq (⟨"PencilFormsModel", "lengthAt", "(I)I"⟩, 30) := ⟨⟨by decide +kernel, by decide +kernel⟩, List.mem_of_getElem? (i := 733) (by decide +kernel), List.mem_of_getElem? (i := 1036) (by decide +kernel), List.mem_of_getElem? (i := 1037) (by decide +kernel)⟩
def lw_privs_4 : List (MethodName × Nat) := [(⟨"PencilFormsModel", "dimension", "()I"⟩, 30), (⟨"PencilFormsModel", "rankOf", "(I)I"⟩, 30), (⟨"PencilFormsModel", "pivotFor", "(II)I"⟩, 30), (⟨"PencilFormsModel", "largeSwaps", "(II)V"⟩, 30), (⟨"PencilFormsModel", "inverse", "(I)I"⟩, 30), (⟨"PencilFormsModel", "largeLoses", "(III)V"⟩, 30), (⟨"PencilFormsModel", "lengthsAt", "(I)I"⟩, 30), (⟨"PencilFormsModel", "findLong", "(I)V"⟩, 30), (⟨"PencilFormsModel", "chainsOf", "(II)I"⟩, 30), (⟨"PencilFormsModel", "addsAt", "(III)V"⟩, 30), (⟨"PencilFormsModel", "lengthsBut", "()I"⟩, 30), (⟨"PencilFormsModel", "rest", "()I"⟩, 30), (⟨"PencilFormsModel", "isTable", "(I)Z"⟩, 30), (⟨"PencilFormsModel", "isPlace", "(II)Z"⟩, 30), (⟨"PencilFormsModel", "isX", "(I)Z"⟩, 30), (⟨"PencilFormsModel", "lengthAt", "(I)I"⟩, 30)]
theorem lw_r4 : ∀ q ∈ lw_privs_4, lw_okq q := List.forall_mem_cons.mpr ⟨lw_p48, List.forall_mem_cons.mpr ⟨lw_p49, List.forall_mem_cons.mpr ⟨lw_p50, List.forall_mem_cons.mpr ⟨lw_p51, List.forall_mem_cons.mpr ⟨lw_p52, List.forall_mem_cons.mpr ⟨lw_p53, List.forall_mem_cons.mpr ⟨lw_p54, List.forall_mem_cons.mpr ⟨lw_p55, List.forall_mem_cons.mpr ⟨lw_p56, List.forall_mem_cons.mpr ⟨lw_p57, List.forall_mem_cons.mpr ⟨lw_p58, List.forall_mem_cons.mpr ⟨lw_p59, List.forall_mem_cons.mpr ⟨lw_p60, List.forall_mem_cons.mpr ⟨lw_p61, List.forall_mem_cons.mpr ⟨lw_p62, List.forall_mem_cons.mpr ⟨lw_p63, fun _ h => absurd h List.not_mem_nil⟩⟩⟩⟩⟩⟩⟩⟩⟩⟩⟩⟩⟩⟩⟩⟩
theorem lw_p64 : lw_okq (⟨"PencilFormsModel", "startsSteps", "(IZ)V"⟩, 30) := ⟨⟨by decide +kernel, by decide +kernel⟩, List.mem_of_getElem? (i := 733) (by decide +kernel), List.mem_of_getElem? (i := 1050) (by decide +kernel), List.mem_of_getElem? (i := 1051) (by decide +kernel)⟩
theorem lw_p65 : lw_okq (⟨"PencilFormsModel", "isColumn", "(I)Z"⟩, 30) := ⟨⟨by decide +kernel, by decide +kernel⟩, List.mem_of_getElem? (i := 733) (by decide +kernel), List.mem_of_getElem? (i := 1058) (by decide +kernel), List.mem_of_getElem? (i := 1059) (by decide +kernel)⟩
theorem lw_p66 : lw_okq (⟨"PencilFormsModel", "rankFrom", "(I)Z"⟩, 30) := ⟨⟨by decide +kernel, by decide +kernel⟩, List.mem_of_getElem? (i := 733) (by decide +kernel), List.mem_of_getElem? (i := 1062) (by decide +kernel), List.mem_of_getElem? (i := 1063) (by decide +kernel)⟩
theorem lw_p67 : lw_okq (⟨"PencilFormsModel", "becomes", "(IIII)V"⟩, 30) := ⟨⟨by decide +kernel, by decide +kernel⟩, List.mem_of_getElem? (i := 733) (by decide +kernel), List.mem_of_getElem? (i := 1070) (by decide +kernel), List.mem_of_getElem? (i := 1071) (by decide +kernel)⟩
theorem lw_p68 : lw_okq (⟨"PencilFormsModel", "shape", "()I"⟩, 30) := ⟨⟨by decide +kernel, by decide +kernel⟩, List.mem_of_getElem? (i := 733) (by decide +kernel), List.mem_of_getElem? (i := 1082) (by decide +kernel), List.mem_of_getElem? (i := 1083) (by decide +kernel)⟩
theorem lw_p69 : lw_okq (⟨"PencilFormsModel", "isLine", "(II)Z"⟩, 30) := ⟨⟨by decide +kernel, by decide +kernel⟩, List.mem_of_getElem? (i := 733) (by decide +kernel), List.mem_of_getElem? (i := 1090) (by decide +kernel), List.mem_of_getElem? (i := 1091) (by decide +kernel)⟩
theorem lw_p70 : lw_okq (⟨"PencilFormsModel", "isTimes", "(I)Z"⟩, 30) := ⟨⟨by decide +kernel, by decide +kernel⟩, List.mem_of_getElem? (i := 733) (by decide +kernel), List.mem_of_getElem? (i := 1094) (by decide +kernel), List.mem_of_getElem? (i := 1095) (by decide +kernel)⟩
theorem lw_p71 : lw_okq (⟨"PencilFormsModel", "lineOf", "(IIII)I"⟩, 30) := ⟨⟨by decide +kernel, by decide +kernel⟩, List.mem_of_getElem? (i := 733) (by decide +kernel), List.mem_of_getElem? (i := 1098) (by decide +kernel), List.mem_of_getElem? (i := 1099) (by decide +kernel)⟩
theorem lw_p72 : lw_okq (⟨"PencilFormsModel", "lineBecomes", "(IIIII)V"⟩, 30) := ⟨⟨by decide +kernel, by decide +kernel⟩, List.mem_of_getElem? (i := 733) (by decide +kernel), List.mem_of_getElem? (i := 1102) (by decide +kernel), List.mem_of_getElem? (i := 1103) (by decide +kernel)⟩
theorem lw_p73 : lw_okq (⟨"PencilFormsModel", "sets1", "(IIII)V"⟩, 30) := ⟨⟨by decide +kernel, by decide +kernel⟩, List.mem_of_getElem? (i := 733) (by decide +kernel), List.mem_of_getElem? (i := 1126) (by decide +kernel), List.mem_of_getElem? (i := 1127) (by decide +kernel)⟩
theorem lw_p74 : lw_okq (⟨"PencilFormsModel", "takes", "(I)V"⟩, 30) := ⟨⟨by decide +kernel, by decide +kernel⟩, List.mem_of_getElem? (i := 733) (by decide +kernel), List.mem_of_getElem? (i := 1138) (by decide +kernel), List.mem_of_getElem? (i := 1139) (by decide +kernel)⟩
theorem lw_p75 : lw_okq (⟨"PencilFormsModel", "findForm", "([I)V"⟩, 30) := ⟨⟨by decide +kernel, by decide +kernel⟩, List.mem_of_getElem? (i := 733) (by decide +kernel), List.mem_of_getElem? (i := 1146) (by decide +kernel), List.mem_of_getElem? (i := 1147) (by decide +kernel)⟩
theorem lw_p76 : lw_okq (⟨"PencilFormsModel", "sumOf", "(IZ)I"⟩, 30) := ⟨⟨by decide +kernel, by decide +kernel⟩, List.mem_of_getElem? (i := 733) (by decide +kernel), List.mem_of_getElem? (i := 1176) (by decide +kernel), List.mem_of_getElem? (i := 1177) (by decide +kernel)⟩
def lw_privs_5 : List (MethodName × Nat) := [(⟨"PencilFormsModel", "startsSteps", "(IZ)V"⟩, 30), (⟨"PencilFormsModel", "isColumn", "(I)Z"⟩, 30), (⟨"PencilFormsModel", "rankFrom", "(I)Z"⟩, 30), (⟨"PencilFormsModel", "becomes", "(IIII)V"⟩, 30), (⟨"PencilFormsModel", "shape", "()I"⟩, 30), (⟨"PencilFormsModel", "isLine", "(II)Z"⟩, 30), (⟨"PencilFormsModel", "isTimes", "(I)Z"⟩, 30), (⟨"PencilFormsModel", "lineOf", "(IIII)I"⟩, 30), (⟨"PencilFormsModel", "lineBecomes", "(IIIII)V"⟩, 30), (⟨"PencilFormsModel", "sets1", "(IIII)V"⟩, 30), (⟨"PencilFormsModel", "takes", "(I)V"⟩, 30), (⟨"PencilFormsModel", "findForm", "([I)V"⟩, 30), (⟨"PencilFormsModel", "sumOf", "(IZ)I"⟩, 30)]
theorem lw_r5 : ∀ q ∈ lw_privs_5, lw_okq q := List.forall_mem_cons.mpr ⟨lw_p64, List.forall_mem_cons.mpr ⟨lw_p65, List.forall_mem_cons.mpr ⟨lw_p66, List.forall_mem_cons.mpr ⟨lw_p67, List.forall_mem_cons.mpr ⟨lw_p68, List.forall_mem_cons.mpr ⟨lw_p69, List.forall_mem_cons.mpr ⟨lw_p70, List.forall_mem_cons.mpr ⟨lw_p71, List.forall_mem_cons.mpr ⟨lw_p72, List.forall_mem_cons.mpr ⟨lw_p73, List.forall_mem_cons.mpr ⟨lw_p74, List.forall_mem_cons.mpr ⟨lw_p75, List.forall_mem_cons.mpr ⟨lw_p76, fun _ h => absurd h List.not_mem_nil⟩⟩⟩⟩⟩⟩⟩⟩⟩⟩⟩⟩⟩
def lw_privs : List (MethodName × Nat) := lw_privs_1 ++ (lw_privs_2 ++ (lw_privs_3 ++ (lw_privs_4 ++ (lw_privs_5))))
def lw_tbl : List Cond := k2_sels lw_privs ++ tables_1
theorem lw_privs_ok : ∀ q ∈ lw_privs, lw_okq q := by
  show ∀ q ∈ lw_privs_1 ++ (lw_privs_2 ++ (lw_privs_3 ++ (lw_privs_4 ++ (lw_privs_5)))), lw_okq q
  exact List.forall_mem_append.mpr ⟨lw_r1, List.forall_mem_append.mpr ⟨lw_r2, List.forall_mem_append.mpr ⟨lw_r3, List.forall_mem_append.mpr ⟨lw_r4, lw_r5⟩⟩⟩⟩
end
section
/-! ===== BEGIN words of one list among another's, by their places ===== -/
theorem goodIn_r {big : List Cond} (ws : List Cond) (ps : List Nat) (hp : ws = ps.filterMap (fun i => big[i]?)) (h : ws.all goodWord = true) : GoodIn big ws := by
  intro w hw
  have h1 := List.all_eq_true.mp h w hw
  rw [hp] at hw
  obtain ⟨i, -, hi⟩ := List.mem_filterMap.mp hw
  have hm : w ∈ big := by first | exact List.mem_of_getElem? hi | exact List.getElem?_mem hi
  exact ⟨hm, good_of_word h1⟩
theorem goodIn_app {big a b : List Cond} (ha : GoodIn big a) (hb : GoodIn big b) : GoodIn big (a ++ b) := fun w h => (List.mem_append.mp h).elim (ha w) (hb w)
theorem goodIn_ca {big a b : List Cond} {c : Cond} (ha : GoodIn big (c :: a)) (hb : GoodIn big b) : GoodIn big (c :: (a ++ b)) := fun w h => (List.mem_cons.mp h).elim (fun e => ha w (List.mem_cons.mpr (Or.inl e))) (fun h => (List.mem_append.mp h).elim (fun h => ha w (List.mem_cons.mpr (Or.inr h))) (hb w))
theorem goodIn_sub {big ws : List Cond} (hm : ∀ w ∈ ws, w ∈ big) (h : ws.all goodWord = true) : GoodIn big ws := fun w hw => ⟨hm w hw, good_of_word (List.all_eq_true.mp h w hw)⟩
/-! ===== END ===== -/

/-! ===== BEGIN printed: names, fields, word lists, decode rows ===== -/
def RX0 : String := "PencilForms$Equations"
def TX0 : u_T := fun k => match k with
  | 0 => ("PencilForms$Equations", "numbers", "[I", true)
  | 1 => ("PencilForms$Equations", "prime", "I", false)
  | 2 => ("PencilForms$Equations", "high", "I", false)
  | _ => ("PencilForms$Equations", "wide", "I", false)
def tyX0 : Nat → FieldType := fun k => match k with
  | 0 => .array .int
  | 1 => .int
  | 2 => .int
  | _ => .int
abbrev wsX00 : List Cond := u_ws RX0 TX0 4
theorem nmX0 : ∀ a, a < 4 → ∀ b, b < 4 → a ≠ b → (TX0 a).2.1 ≠ (TX0 b).2.1 := by decide +kernel
theorem tyX0_ok : ∀ k, k < 4 → parseFieldDescriptor (TX0 k).2.2.1 = some (tyX0 k) := by decide +kernel
abbrev cX0_init : ByteArray := prog_2_method_1_code
def yX0_init : MethodName := ⟨RX0, "<init>", "()V"⟩
abbrev cX0_begin : ByteArray := prog_2_method_2_code
def yX0_begin : MethodName := ⟨RX0, "begin", "(LPencilForms$Pair;II)V"⟩
abbrev cX0_putBlock : ByteArray := prog_2_method_3_code
def yX0_putBlock : MethodName := ⟨RX0, "putBlock", "(LPencilForms$Pair;IIII)V"⟩
abbrev cX0_addImageUnderA : ByteArray := prog_2_method_4_code
def yX0_addImageUnderA : MethodName := ⟨RX0, "addImageUnderA", "(LPencilForms$Pair;[I)V"⟩
abbrev cX0_useUpForRank : ByteArray := prog_2_method_5_code
def yX0_useUpForRank : MethodName := ⟨RX0, "useUpForRank", "()I"⟩
abbrev cX0_findPivot : ByteArray := prog_2_method_6_code
def yX0_findPivot : MethodName := ⟨RX0, "findPivot", "(II)I"⟩
abbrev cX0_exchangeRows : ByteArray := prog_2_method_7_code
def yX0_exchangeRows : MethodName := ⟨RX0, "exchangeRows", "(III)V"⟩
abbrev cX0_clearBelow : ByteArray := prog_2_method_8_code
def yX0_clearBelow : MethodName := ⟨RX0, "clearBelow", "(II)V"⟩
abbrev cX0_putNumber : ByteArray := prog_2_method_9_code
def yX0_putNumber : MethodName := ⟨RX0, "putNumber", "(III)V"⟩
def RX1 : String := "PencilForms$Pair"
def TX1 : u_T := fun k => match k with
  | 0 => ("PencilForms$Pair", "values", "[I", true)
  | 1 => ("PencilForms$Pair", "prime", "I", false)
  | 2 => ("PencilForms$Pair", "rows", "I", false)
  | _ => ("PencilForms$Pair", "columns", "I", false)
def tyX1 : Nat → FieldType := fun k => match k with
  | 0 => .array .int
  | 1 => .int
  | 2 => .int
  | _ => .int
abbrev wsX10 : List Cond := u_ws RX1 TX1 4
theorem nmX1 : ∀ a, a < 4 → ∀ b, b < 4 → a ≠ b → (TX1 a).2.1 ≠ (TX1 b).2.1 := by decide +kernel
theorem tyX1_ok : ∀ k, k < 4 → parseFieldDescriptor (TX1 k).2.2.1 = some (tyX1 k) := by decide +kernel
abbrev cX1_init : ByteArray := prog_3_method_1_code
def yX1_init : MethodName := ⟨RX1, "<init>", "()V"⟩
abbrev cX1_makeEmpty : ByteArray := prog_3_method_2_code
def yX1_makeEmpty : MethodName := ⟨RX1, "makeEmpty", "()V"⟩
abbrev cX1_takeFrom : ByteArray := prog_3_method_3_code
def yX1_takeFrom : MethodName := ⟨RX1, "takeFrom", "(LPencilForms$Pair;)V"⟩
abbrev cX1_shape : ByteArray := prog_3_method_4_code
def yX1_shape : MethodName := ⟨RX1, "shape", "()I"⟩
abbrev cX1_linesOf : ByteArray := prog_3_method_5_code
def yX1_linesOf : MethodName := ⟨RX1, "linesOf", "(I)I"⟩
abbrev cX1_hasLine : ByteArray := prog_3_method_6_code
def yX1_hasLine : MethodName := ⟨RX1, "hasLine", "(II)Z"⟩
abbrev cX1_hasPlace : ByteArray := prog_3_method_7_code
def yX1_hasPlace : MethodName := ⟨RX1, "hasPlace", "(III)Z"⟩
abbrev cX1_valueAt : ByteArray := prog_3_method_8_code
def yX1_valueAt : MethodName := ⟨RX1, "valueAt", "(III)I"⟩
abbrev cX1_putValue : ByteArray := prog_3_method_9_code
def yX1_putValue : MethodName := ⟨RX1, "putValue", "(IIII)V"⟩
abbrev cX1_addLine : ByteArray := prog_3_method_10_code
def yX1_addLine : MethodName := ⟨RX1, "addLine", "(I)V"⟩
abbrev cX1_growTo : ByteArray := prog_3_method_11_code
def yX1_growTo : MethodName := ⟨RX1, "growTo", "(II)V"⟩
abbrev cX1_shrinkTo : ByteArray := prog_3_method_12_code
def yX1_shrinkTo : MethodName := ⟨RX1, "shrinkTo", "(II)V"⟩
abbrev cX1_mixLines : ByteArray := prog_3_method_13_code
def yX1_mixLines : MethodName := ⟨RX1, "mixLines", "(IIII)V"⟩
abbrev cX1_multiplyLine : ByteArray := prog_3_method_14_code
def yX1_multiplyLine : MethodName := ⟨RX1, "multiplyLine", "(III)V"⟩
abbrev cX1_exchangeLines : ByteArray := prog_3_method_15_code
def yX1_exchangeLines : MethodName := ⟨RX1, "exchangeLines", "(III)V"⟩
abbrev cX1_exchangeTables : ByteArray := prog_3_method_16_code
def yX1_exchangeTables : MethodName := ⟨RX1, "exchangeTables", "()V"⟩
abbrev cX1_flip : ByteArray := prog_3_method_17_code
def yX1_flip : MethodName := ⟨RX1, "flip", "()V"⟩
abbrev cX1_shift : ByteArray := prog_3_method_18_code
def yX1_shift : MethodName := ⟨RX1, "shift", "()V"⟩
abbrev cX1_placesNotZero : ByteArray := prog_3_method_19_code
def yX1_placesNotZero : MethodName := ⟨RX1, "placesNotZero", "()I"⟩
abbrev cX1_sumOf : ByteArray := prog_3_method_20_code
def yX1_sumOf : MethodName := ⟨RX1, "sumOf", "(I)I"⟩
abbrev cX1_onLine : ByteArray := prog_3_method_21_code
def yX1_onLine : MethodName := ⟨RX1, "onLine", "(IIII)I"⟩
abbrev cX1_putOnLine : ByteArray := prog_3_method_22_code
def yX1_putOnLine : MethodName := ⟨RX1, "putOnLine", "(IIIII)V"⟩
abbrev cX1_exchangeSpots : ByteArray := prog_3_method_23_code
def yX1_exchangeSpots : MethodName := ⟨RX1, "exchangeSpots", "(II)V"⟩
abbrev cX1_spot : ByteArray := prog_3_method_24_code
def yX1_spot : MethodName := ⟨RX1, "spot", "(III)I"⟩
def RX2 : String := "PencilForms$Sheet"
def TX2 : u_T := fun k => match k with
  | 0 => ("PencilForms$Sheet", "cells", "[I", true)
  | 1 => ("PencilForms$Sheet", "lane", "I", false)
  | _ => ("PencilForms$Sheet", "size", "I", false)
def tyX2 : Nat → FieldType := fun k => match k with
  | 0 => .array .int
  | 1 => .int
  | _ => .int
abbrev wsX20 : List Cond := u_ws RX2 TX2 3
theorem nmX2 : ∀ a, a < 3 → ∀ b, b < 3 → a ≠ b → (TX2 a).2.1 ≠ (TX2 b).2.1 := by decide +kernel
theorem tyX2_ok : ∀ k, k < 3 → parseFieldDescriptor (TX2 k).2.2.1 = some (tyX2 k) := by decide +kernel
abbrev cX2_init : ByteArray := prog_4_method_1_code
def yX2_init : MethodName := ⟨RX2, "<init>", "()V"⟩
abbrev cX2_isNothing : ByteArray := prog_4_method_2_code
def yX2_isNothing : MethodName := ⟨RX2, "isNothing", "()Z"⟩
abbrev cX2_makeNew : ByteArray := prog_4_method_3_code
def yX2_makeNew : MethodName := ⟨RX2, "makeNew", "(II)V"⟩
abbrev cX2_findAt : ByteArray := prog_4_method_4_code
def yX2_findAt : MethodName := ⟨RX2, "findAt", "(I)I"⟩
abbrev cX2_findFour : ByteArray := prog_4_method_5_code
def yX2_findFour : MethodName := ⟨RX2, "findFour", "(II)I"⟩
abbrev cX2_cellAt : ByteArray := prog_4_method_6_code
def yX2_cellAt : MethodName := ⟨RX2, "cellAt", "(I)I"⟩
abbrev cX2_putCell : ByteArray := prog_4_method_7_code
def yX2_putCell : MethodName := ⟨RX2, "putCell", "(II)V"⟩
def RX3 : String := "PencilForms$TextReader"
def TX3 : u_T := fun k => match k with
  | 0 => ("PencilForms$TextReader", "bytes", "[B", true)
  | 1 => ("PencilForms$TextReader", "draft", "LPencilForms$Pair;", true)
  | 2 => ("PencilForms$TextReader", "many", "I", false)
  | 3 => ("PencilForms$TextReader", "place", "I", false)
  | 4 => ("PencilForms$TextReader", "kind", "I", false)
  | 5 => ("PencilForms$TextReader", "start", "I", false)
  | 6 => ("PencilForms$TextReader", "number", "I", false)
  | 7 => ("PencilForms$TextReader", "lines", "I", false)
  | 8 => ("PencilForms$TextReader", "largestX", "I", false)
  | 9 => ("PencilForms$TextReader", "primeTold", "Z", false)
  | 10 => ("PencilForms$TextReader", "faultKind", "I", false)
  | _ => ("PencilForms$TextReader", "faultPlace", "I", false)
def tyX3 : Nat → FieldType := fun k => match k with
  | 0 => .array .byte
  | 1 => .object "PencilForms$Pair"
  | 2 => .int
  | 3 => .int
  | 4 => .int
  | 5 => .int
  | 6 => .int
  | 7 => .int
  | 8 => .int
  | 9 => .boolean
  | 10 => .int
  | _ => .int
abbrev wsX30 : List Cond := u_ws RX3 TX3 12
theorem nmX3 : ∀ a, a < 12 → ∀ b, b < 12 → a ≠ b → (TX3 a).2.1 ≠ (TX3 b).2.1 := by decide +kernel
theorem tyX3_ok : ∀ k, k < 12 → parseFieldDescriptor (TX3 k).2.2.1 = some (tyX3 k) := by decide +kernel
abbrev cX3_init : ByteArray := prog_5_method_1_code
def yX3_init : MethodName := ⟨RX3, "<init>", "()V"⟩
abbrev cX3_addByte : ByteArray := prog_5_method_2_code
def yX3_addByte : MethodName := ⟨RX3, "addByte", "(I)Z"⟩
abbrev cX3_readText : ByteArray := prog_5_method_3_code
def yX3_readText : MethodName := ⟨RX3, "readText", "()V"⟩
abbrev cX3_readLine : ByteArray := prog_5_method_4_code
def yX3_readLine : MethodName := ⟨RX3, "readLine", "()Z"⟩
abbrev cX3_readPrime : ByteArray := prog_5_method_5_code
def yX3_readPrime : MethodName := ⟨RX3, "readPrime", "()Z"⟩
abbrev cX3_readBlock : ByteArray := prog_5_method_6_code
def yX3_readBlock : MethodName := ⟨RX3, "readBlock", "(I)Z"⟩
abbrev cX3_putBlock : ByteArray := prog_5_method_7_code
def yX3_putBlock : MethodName := ⟨RX3, "putBlock", "(IIII)V"⟩
abbrev cX3_readNumber : ByteArray := prog_5_method_8_code
def yX3_readNumber : MethodName := ⟨RX3, "readNumber", "(II)Z"⟩
abbrev cX3_readToken : ByteArray := prog_5_method_9_code
def yX3_readToken : MethodName := ⟨RX3, "readToken", "()Z"⟩
abbrev cX3_takeNumber : ByteArray := prog_5_method_10_code
def yX3_takeNumber : MethodName := ⟨RX3, "takeNumber", "()Z"⟩
abbrev cX3_endOfRun : ByteArray := prog_5_method_11_code
def yX3_endOfRun : MethodName := ⟨RX3, "endOfRun", "(CC)I"⟩
abbrev cX3_lineOfName : ByteArray := prog_5_method_12_code
def yX3_lineOfName : MethodName := ⟨RX3, "lineOfName", "()I"⟩
abbrev cX3_nameIs : ByteArray := prog_5_method_13_code
def yX3_nameIs : MethodName := ⟨RX3, "nameIs", "(Ljava/lang/String;)Z"⟩
abbrev cX3_stopAt : ByteArray := prog_5_method_14_code
def yX3_stopAt : MethodName := ⟨RX3, "stopAt", "(II)Z"⟩
def RX4 : String := "PencilForms$Underneath"
def TX4 : u_T := fun k => match k with
  | 0 => ("PencilForms$Underneath", "equations", "LPencilForms$Equations;", true)
  | 1 => ("PencilForms$Underneath", "flipped", "LPencilForms$Pair;", true)
  | 2 => ("PencilForms$Underneath", "colCounts", "[I", true)
  | 3 => ("PencilForms$Underneath", "rowCounts", "[I", true)
  | _ => ("PencilForms$Underneath", "column", "[I", true)
def tyX4 : Nat → FieldType := fun k => match k with
  | 0 => .object "PencilForms$Equations"
  | 1 => .object "PencilForms$Pair"
  | 2 => .array .int
  | 3 => .array .int
  | _ => .array .int
abbrev wsX40 : List Cond := u_ws RX4 TX4 5
theorem nmX4 : ∀ a, a < 5 → ∀ b, b < 5 → a ≠ b → (TX4 a).2.1 ≠ (TX4 b).2.1 := by decide +kernel
theorem tyX4_ok : ∀ k, k < 5 → parseFieldDescriptor (TX4 k).2.2.1 = some (tyX4 k) := by decide +kernel
abbrev cX4_init : ByteArray := prog_6_method_1_code
def yX4_init : MethodName := ⟨RX4, "<init>", "()V"⟩
abbrev cX4_rankAt : ByteArray := prog_6_method_2_code
def yX4_rankAt : MethodName := ⟨RX4, "rankAt", "(LPencilForms$Pair;I)I"⟩
abbrev cX4_nullsOf : ByteArray := prog_6_method_3_code
def yX4_nullsOf : MethodName := ⟨RX4, "nullsOf", "(LPencilForms$Pair;I)I"⟩
abbrev cX4_chainsAt : ByteArray := prog_6_method_4_code
def yX4_chainsAt : MethodName := ⟨RX4, "chainsAt", "(LPencilForms$Pair;II)I"⟩
abbrev cX4_stepsOf : ByteArray := prog_6_method_5_code
def yX4_stepsOf : MethodName := ⟨RX4, "stepsOf", "(LPencilForms$Pair;I)I"⟩
abbrev cX4_goersOf : ByteArray := prog_6_method_6_code
def yX4_goersOf : MethodName := ⟨RX4, "goersOf", "(LPencilForms$Pair;I)I"⟩
abbrev cX4_takeColumn : ByteArray := prog_6_method_7_code
def yX4_takeColumn : MethodName := ⟨RX4, "takeColumn", "(LPencilForms$Pair;I)Z"⟩
abbrev cX4_columnCanGo : ByteArray := prog_6_method_8_code
def yX4_columnCanGo : MethodName := ⟨RX4, "columnCanGo", "(LPencilForms$Pair;I)Z"⟩
abbrev cX4_colIndex : ByteArray := prog_6_method_9_code
def yX4_colIndex : MethodName := ⟨RX4, "colIndex", "(LPencilForms$Pair;I)I"⟩
abbrev cX4_rowIndex : ByteArray := prog_6_method_10_code
def yX4_rowIndex : MethodName := ⟨RX4, "rowIndex", "(LPencilForms$Pair;I)I"⟩
abbrev cX4_howManyCols : ByteArray := prog_6_method_11_code
def yX4_howManyCols : MethodName := ⟨RX4, "howManyCols", "(LPencilForms$Pair;)I"⟩
abbrev cX4_howManyRows : ByteArray := prog_6_method_12_code
def yX4_howManyRows : MethodName := ⟨RX4, "howManyRows", "(LPencilForms$Pair;)I"⟩
abbrev cX4_lengthAt : ByteArray := prog_6_method_13_code
def yX4_lengthAt : MethodName := ⟨RX4, "lengthAt", "(LPencilForms$Pair;II)I"⟩
abbrev cX4_lengthsFrom : ByteArray := prog_6_method_14_code
def yX4_lengthsFrom : MethodName := ⟨RX4, "lengthsFrom", "(LPencilForms$Pair;II)I"⟩
abbrev cX4_columnsOfIndices : ByteArray := prog_6_method_15_code
def yX4_columnsOfIndices : MethodName := ⟨RX4, "columnsOfIndices", "(LPencilForms$Pair;)I"⟩
abbrev cX4_tellForm : ByteArray := prog_6_method_16_code
def yX4_tellForm : MethodName := ⟨RX4, "tellForm", "(LPencilForms$Pair;[I)V"⟩
abbrev cX4_putChains : ByteArray := prog_6_method_17_code
def yX4_putChains : MethodName := ⟨RX4, "putChains", "(LPencilForms$Pair;II)V"⟩
abbrev cX4_countIndices : ByteArray := prog_6_method_18_code
def yX4_countIndices : MethodName := ⟨RX4, "countIndices", "(LPencilForms$Pair;[I)I"⟩
abbrev cX4_flippedOf : ByteArray := prog_6_method_19_code
def yX4_flippedOf : MethodName := ⟨RX4, "flippedOf", "(LPencilForms$Pair;)LPencilForms$Pair;"⟩
abbrev cX4_indexIn : ByteArray := prog_6_method_20_code
def yX4_indexIn : MethodName := ⟨RX4, "indexIn", "([II)I"⟩
abbrev cX4_putIn : ByteArray := prog_6_method_21_code
def yX4_putIn : MethodName := ⟨RX4, "putIn", "([III)I"⟩
def RX5 : String := "PencilForms"
def TX5 : u_T := fun k => match k with
  | 0 => ("PencilForms", "reader", "LPencilForms$TextReader;", true)
  | 1 => ("PencilForms", "pair", "LPencilForms$Pair;", true)
  | 2 => ("PencilForms", "images", "[LPencilForms$Pair;", true)
  | 3 => ("PencilForms", "kept", "[Z", true)
  | 4 => ("PencilForms", "sheets", "[LPencilForms$Sheet;", true)
  | 5 => ("PencilForms", "underneath", "LPencilForms$Underneath;", true)
  | 6 => ("PencilForms", "formHere", "[I", true)
  | 7 => ("PencilForms", "formThere", "[I", true)
  | 8 => ("PencilForms", "textFault", "I", false)
  | _ => ("PencilForms", "readFault", "I", false)
def tyX5 : Nat → FieldType := fun k => match k with
  | 0 => .object "PencilForms$TextReader"
  | 1 => .object "PencilForms$Pair"
  | 2 => .array (.object "PencilForms$Pair")
  | 3 => .array .boolean
  | 4 => .array (.object "PencilForms$Sheet")
  | 5 => .object "PencilForms$Underneath"
  | 6 => .array .int
  | 7 => .array .int
  | 8 => .int
  | _ => .int
abbrev wsX50 : List Cond := u_ws RX5 TX5 10
theorem nmX5 : ∀ a, a < 10 → ∀ b, b < 10 → a ≠ b → (TX5 a).2.1 ≠ (TX5 b).2.1 := by decide +kernel
theorem tyX5_ok : ∀ k, k < 10 → parseFieldDescriptor (TX5 k).2.2.1 = some (tyX5 k) := by decide +kernel
abbrev cX5_init : ByteArray := prog_1_method_1_code
def yX5_init : MethodName := ⟨RX5, "<init>", "()V"⟩
abbrev cX5_feed : ByteArray := prog_1_method_2_code
def yX5_feed : MethodName := ⟨RX5, "feed", "(I)I"⟩
abbrev cX5_end : ByteArray := prog_1_method_3_code
def yX5_end : MethodName := ⟨RX5, "end", "(I)I"⟩
abbrev cX5_text : ByteArray := prog_1_method_4_code
def yX5_text : MethodName := ⟨RX5, "text", "()I"⟩
abbrev cX5_fault : ByteArray := prog_1_method_5_code
def yX5_fault : MethodName := ⟨RX5, "fault", "()I"⟩
abbrev cX5_rule : ByteArray := prog_1_method_6_code
def yX5_rule : MethodName := ⟨RX5, "rule", "(I)I"⟩
abbrev cX5_cell : ByteArray := prog_1_method_7_code
def yX5_cell : MethodName := ⟨RX5, "cell", "(III)I"⟩
abbrev cX5_rank : ByteArray := prog_1_method_8_code
def yX5_rank : MethodName := ⟨RX5, "rank", "(I)I"⟩
abbrev cX5_nulls : ByteArray := prog_1_method_9_code
def yX5_nulls : MethodName := ⟨RX5, "nulls", "(I)I"⟩
abbrev cX5_col : ByteArray := prog_1_method_10_code
def yX5_col : MethodName := ⟨RX5, "col", "(I)I"⟩
abbrev cX5_row : ByteArray := prog_1_method_11_code
def yX5_row : MethodName := ⟨RX5, "row", "(I)I"⟩
abbrev cX5_chains : ByteArray := prog_1_method_12_code
def yX5_chains : MethodName := ⟨RX5, "chains", "(II)I"⟩
abbrev cX5_length : ByteArray := prog_1_method_13_code
def yX5_length : MethodName := ⟨RX5, "length", "(II)I"⟩
abbrev cX5_steps : ByteArray := prog_1_method_14_code
def yX5_steps : MethodName := ⟨RX5, "steps", "(II)I"⟩
abbrev cX5_go : ByteArray := prog_1_method_15_code
def yX5_go : MethodName := ⟨RX5, "go", "(II)I"⟩
abbrev cX5_isX : ByteArray := prog_1_method_16_code
def yX5_isX : MethodName := ⟨RX5, "isX", "(I)Z"⟩
abbrev cX5_isStepCount : ByteArray := prog_1_method_17_code
def yX5_isStepCount : MethodName := ⟨RX5, "isStepCount", "(I)Z"⟩
abbrev cX5_isSide : ByteArray := prog_1_method_18_code
def yX5_isSide : MethodName := ⟨RX5, "isSide", "(I)Z"⟩
abbrev cX5_set : ByteArray := prog_1_method_19_code
def yX5_set : MethodName := ⟨RX5, "set", "(IIII)I"⟩
abbrev cX5_open : ByteArray := prog_1_method_20_code
def yX5_open : MethodName := ⟨RX5, "open", "(I)I"⟩
abbrev cX5_cut : ByteArray := prog_1_method_21_code
def yX5_cut : MethodName := ⟨RX5, "cut", "(II)I"⟩
abbrev cX5_mix : ByteArray := prog_1_method_22_code
def yX5_mix : MethodName := ⟨RX5, "mix", "(IIII)I"⟩
abbrev cX5_times : ByteArray := prog_1_method_23_code
def yX5_times : MethodName := ⟨RX5, "times", "(III)I"⟩
abbrev cX5_swap : ByteArray := prog_1_method_24_code
def yX5_swap : MethodName := ⟨RX5, "swap", "(III)I"⟩
abbrev cX5_scramble : ByteArray := prog_1_method_25_code
def yX5_scramble : MethodName := ⟨RX5, "scramble", "(II)I"⟩
abbrev cX5_turn : ByteArray := prog_1_method_26_code
def yX5_turn : MethodName := ⟨RX5, "turn", "(I)I"⟩
abbrev cX5_mixByNumber : ByteArray := prog_1_method_27_code
def yX5_mixByNumber : MethodName := ⟨RX5, "mixByNumber", "(I)Z"⟩
abbrev cX5_maySet : ByteArray := prog_1_method_28_code
def yX5_maySet : MethodName := ⟨RX5, "maySet", "(IIII)Z"⟩
abbrev cX5_mayMix : ByteArray := prog_1_method_29_code
def yX5_mayMix : MethodName := ⟨RX5, "mayMix", "(IIII)Z"⟩
abbrev cX5_isFactor : ByteArray := prog_1_method_30_code
def yX5_isFactor : MethodName := ⟨RX5, "isFactor", "(I)Z"⟩
abbrev cX5_keep : ByteArray := prog_1_method_31_code
def yX5_keep : MethodName := ⟨RX5, "keep", "(I)I"⟩
abbrev cX5_back : ByteArray := prog_1_method_32_code
def yX5_back : MethodName := ⟨RX5, "back", "(I)I"⟩
abbrev cX5_alike : ByteArray := prog_1_method_33_code
def yX5_alike : MethodName := ⟨RX5, "alike", "(I)I"⟩
abbrev cX5_isImage : ByteArray := prog_1_method_34_code
def yX5_isImage : MethodName := ⟨RX5, "isImage", "(I)Z"⟩
abbrev cX5_sheet : ByteArray := prog_1_method_35_code
def yX5_sheet : MethodName := ⟨RX5, "sheet", "(III)I"⟩
abbrev cX5_lay : ByteArray := prog_1_method_36_code
def yX5_lay : MethodName := ⟨RX5, "lay", "(III)I"⟩
abbrev cX5_read : ByteArray := prog_1_method_37_code
def yX5_read : MethodName := ⟨RX5, "read", "(IIII)I"⟩
abbrev cX5_torn : ByteArray := prog_1_method_38_code
def yX5_torn : MethodName := ⟨RX5, "torn", "()I"⟩
abbrev cX5_count : ByteArray := prog_1_method_39_code
def yX5_count : MethodName := ⟨RX5, "count", "(I)I"⟩
abbrev cX5_maySetFrom : ByteArray := prog_1_method_40_code
def yX5_maySetFrom : MethodName := ⟨RX5, "maySetFrom", "(LPencilForms$Sheet;I)Z"⟩
abbrev cX5_setFrom : ByteArray := prog_1_method_41_code
def yX5_setFrom : MethodName := ⟨RX5, "setFrom", "(LPencilForms$Sheet;I)V"⟩
abbrev cX5_isSheet : ByteArray := prog_1_method_42_code
def yX5_isSheet : MethodName := ⟨RX5, "isSheet", "(I)Z"⟩
abbrev cX5_isLane : ByteArray := prog_1_method_43_code
def yX5_isLane : MethodName := ⟨RX5, "isLane", "(I)Z"⟩
abbrev cX5_reduce : ByteArray := prog_1_method_44_code
def yX5_reduce : MethodName := ⟨RX5, "reduce", "(II)I"⟩
def RX6 : String := "PencilFormsModel"
def TX6 : u_T := fun k => match k with
  | 0 => ("PencilFormsModel", "st", "[I", true)
  | 1 => ("PencilFormsModel", "kept", "[I", true)
  | 2 => ("PencilFormsModel", "isKept", "[Z", true)
  | 3 => ("PencilFormsModel", "draft", "[I", true)
  | 4 => ("PencilFormsModel", "highestX", "I", false)
  | 5 => ("PencilFormsModel", "hasPrime", "Z", false)
  | 6 => ("PencilFormsModel", "tape", "[I", true)
  | 7 => ("PencilFormsModel", "taped", "I", false)
  | 8 => ("PencilFormsModel", "pos", "I", false)
  | 9 => ("PencilFormsModel", "begun", "I", false)
  | 10 => ("PencilFormsModel", "sort", "I", false)
  | 11 => ("PencilFormsModel", "value", "I", false)
  | 12 => ("PencilFormsModel", "fault", "I", false)
  | 13 => ("PencilFormsModel", "wrongAt", "I", false)
  | 14 => ("PencilFormsModel", "large", "[I", true)
  | 15 => ("PencilFormsModel", "largeRows", "I", false)
  | 16 => ("PencilFormsModel", "largeColumns", "I", false)
  | 17 => ("PencilFormsModel", "isFlipped", "Z", false)
  | 18 => ("PencilFormsModel", "colMany", "[I", true)
  | 19 => ("PencilFormsModel", "rowMany", "[I", true)
  | 20 => ("PencilFormsModel", "longMany", "[I", true)
  | 21 => ("PencilFormsModel", "figures", "[I", true)
  | 22 => ("PencilFormsModel", "aside", "[I", true)
  | 23 => ("PencilFormsModel", "form", "[I", true)
  | 24 => ("PencilFormsModel", "formOther", "[I", true)
  | 25 => ("PencilFormsModel", "lanes", "[I", true)
  | 26 => ("PencilFormsModel", "sizes", "[I", true)
  | 27 => ("PencilFormsModel", "cells", "[I", true)
  | 28 => ("PencilFormsModel", "torn", "I", false)
  | _ => ("PencilFormsModel", "before", "[I", true)
def tyX6 : Nat → FieldType := fun k => match k with
  | 0 => .array .int
  | 1 => .array .int
  | 2 => .array .boolean
  | 3 => .array .int
  | 4 => .int
  | 5 => .boolean
  | 6 => .array .int
  | 7 => .int
  | 8 => .int
  | 9 => .int
  | 10 => .int
  | 11 => .int
  | 12 => .int
  | 13 => .int
  | 14 => .array .int
  | 15 => .int
  | 16 => .int
  | 17 => .boolean
  | 18 => .array .int
  | 19 => .array .int
  | 20 => .array .int
  | 21 => .array .int
  | 22 => .array .int
  | 23 => .array .int
  | 24 => .array .int
  | 25 => .array .int
  | 26 => .array .int
  | 27 => .array .int
  | 28 => .int
  | _ => .array .int
abbrev wsX60 : List Cond := u_ws RX6 TX6 30
theorem nmX6 : ∀ a, a < 30 → ∀ b, b < 30 → a ≠ b → (TX6 a).2.1 ≠ (TX6 b).2.1 := by decide +kernel
theorem tyX6_ok : ∀ k, k < 30 → parseFieldDescriptor (TX6 k).2.2.1 = some (tyX6 k) := by decide +kernel
abbrev cX6_init : ByteArray := prog_8_method_1_code
def yX6_init : MethodName := ⟨RX6, "<init>", "()V"⟩
abbrev cX6_in : ByteArray := prog_8_method_3_code
def yX6_in : MethodName := ⟨RX6, "in", "(JJJ)Z"⟩
abbrev cX6_flag : ByteArray := prog_8_method_4_code
def yX6_flag : MethodName := ⟨RX6, "flag", "(Z)I"⟩
abbrev cX6_feed : ByteArray := prog_8_method_5_code
def yX6_feed : MethodName := ⟨RX6, "feed", "(I)I"⟩
abbrev cX6_end : ByteArray := prog_8_method_6_code
def yX6_end : MethodName := ⟨RX6, "end", "(I)I"⟩
abbrev cX6_requires : ByteArray := prog_8_method_7_code
def yX6_requires : MethodName := ⟨RX6, "requires", "(ZI)V"⟩
abbrev cX6_byteAt : ByteArray := prog_8_method_8_code
def yX6_byteAt : MethodName := ⟨RX6, "byteAt", "(I)I"⟩
abbrev cX6_is : ByteArray := prog_8_method_9_code
def yX6_is : MethodName := ⟨RX6, "is", "(IIII)Z"⟩
abbrev cX6_lineNow : ByteArray := prog_8_method_10_code
def yX6_lineNow : MethodName := ⟨RX6, "lineNow", "()I"⟩
abbrev cX6_reads : ByteArray := prog_8_method_11_code
def yX6_reads : MethodName := ⟨RX6, "reads", "()V"⟩
abbrev cX6_isPrime : ByteArray := prog_8_method_12_code
def yX6_isPrime : MethodName := ⟨RX6, "isPrime", "(I)Z"⟩
abbrev cX6_readNumber : ByteArray := prog_8_method_13_code
def yX6_readNumber : MethodName := ⟨RX6, "readNumber", "(II)I"⟩
abbrev cX6_draws : ByteArray := prog_8_method_14_code
def yX6_draws : MethodName := ⟨RX6, "draws", "(IIII)V"⟩
abbrev cX6_blockComes : ByteArray := prog_8_method_15_code
def yX6_blockComes : MethodName := ⟨RX6, "blockComes", "(III)V"⟩
abbrev cX6_readLineOf : ByteArray := prog_8_method_16_code
def yX6_readLineOf : MethodName := ⟨RX6, "readLineOf", "(I)V"⟩
abbrev cX6_readLine : ByteArray := prog_8_method_17_code
def yX6_readLine : MethodName := ⟨RX6, "readLine", "()V"⟩
abbrev cX6_text : ByteArray := prog_8_method_18_code
def yX6_text : MethodName := ⟨RX6, "text", "()I"⟩
abbrev cX6_fault : ByteArray := prog_8_method_19_code
def yX6_fault : MethodName := ⟨RX6, "fault", "()I"⟩
abbrev cX6_isTable : ByteArray := prog_8_method_20_code
def yX6_isTable : MethodName := ⟨RX6, "isTable", "(I)Z"⟩
abbrev cX6_isPlace : ByteArray := prog_8_method_21_code
def yX6_isPlace : MethodName := ⟨RX6, "isPlace", "(II)Z"⟩
abbrev cX6_isX : ByteArray := prog_8_method_22_code
def yX6_isX : MethodName := ⟨RX6, "isX", "(I)Z"⟩
abbrev cX6_isPart : ByteArray := prog_8_method_23_code
def yX6_isPart : MethodName := ⟨RX6, "isPart", "(I)Z"⟩
abbrev cX6_of : ByteArray := prog_8_method_24_code
def yX6_of : MethodName := ⟨RX6, "of", "(III)I"⟩
abbrev cX6_becomes : ByteArray := prog_8_method_25_code
def yX6_becomes : MethodName := ⟨RX6, "becomes", "(IIII)V"⟩
abbrev cX6_rowsNow : ByteArray := prog_8_method_26_code
def yX6_rowsNow : MethodName := ⟨RX6, "rowsNow", "()I"⟩
abbrev cX6_columnsNow : ByteArray := prog_8_method_27_code
def yX6_columnsNow : MethodName := ⟨RX6, "columnsNow", "()I"⟩
abbrev cX6_entry : ByteArray := prog_8_method_28_code
def yX6_entry : MethodName := ⟨RX6, "entry", "(III)I"⟩
abbrev cX6_modulo : ByteArray := prog_8_method_29_code
def yX6_modulo : MethodName := ⟨RX6, "modulo", "(I)I"⟩
abbrev cX6_startsLarge : ByteArray := prog_8_method_30_code
def yX6_startsLarge : MethodName := ⟨RX6, "startsLarge", "(II)V"⟩
abbrev cX6_adds : ByteArray := prog_8_method_31_code
def yX6_adds : MethodName := ⟨RX6, "adds", "(IIII)V"⟩
abbrev cX6_inverse : ByteArray := prog_8_method_32_code
def yX6_inverse : MethodName := ⟨RX6, "inverse", "(I)I"⟩
abbrev cX6_largeSwaps : ByteArray := prog_8_method_33_code
def yX6_largeSwaps : MethodName := ⟨RX6, "largeSwaps", "(II)V"⟩
abbrev cX6_largeLoses : ByteArray := prog_8_method_34_code
def yX6_largeLoses : MethodName := ⟨RX6, "largeLoses", "(III)V"⟩
abbrev cX6_pivotFor : ByteArray := prog_8_method_35_code
def yX6_pivotFor : MethodName := ⟨RX6, "pivotFor", "(II)I"⟩
abbrev cX6_rankOf : ByteArray := prog_8_method_36_code
def yX6_rankOf : MethodName := ⟨RX6, "rankOf", "(I)I"⟩
abbrev cX6_dimension : ByteArray := prog_8_method_37_code
def yX6_dimension : MethodName := ⟨RX6, "dimension", "()I"⟩
abbrev cX6_nullsOf : ByteArray := prog_8_method_38_code
def yX6_nullsOf : MethodName := ⟨RX6, "nullsOf", "(I)I"⟩
abbrev cX6_findIndices : ByteArray := prog_8_method_39_code
def yX6_findIndices : MethodName := ⟨RX6, "findIndices", "([I)V"⟩
abbrev cX6_findAllIndices : ByteArray := prog_8_method_40_code
def yX6_findAllIndices : MethodName := ⟨RX6, "findAllIndices", "()V"⟩
abbrev cX6_manyOf : ByteArray := prog_8_method_41_code
def yX6_manyOf : MethodName := ⟨RX6, "manyOf", "([I)I"⟩
abbrev cX6_indexAt : ByteArray := prog_8_method_42_code
def yX6_indexAt : MethodName := ⟨RX6, "indexAt", "([II)I"⟩
abbrev cX6_addsAt : ByteArray := prog_8_method_43_code
def yX6_addsAt : MethodName := ⟨RX6, "addsAt", "(III)V"⟩
abbrev cX6_chainsOf : ByteArray := prog_8_method_44_code
def yX6_chainsOf : MethodName := ⟨RX6, "chainsOf", "(II)I"⟩
abbrev cX6_findLong : ByteArray := prog_8_method_45_code
def yX6_findLong : MethodName := ⟨RX6, "findLong", "(I)V"⟩
abbrev cX6_lengthAt : ByteArray := prog_8_method_46_code
def yX6_lengthAt : MethodName := ⟨RX6, "lengthAt", "(I)I"⟩
abbrev cX6_lengthsAt : ByteArray := prog_8_method_47_code
def yX6_lengthsAt : MethodName := ⟨RX6, "lengthsAt", "(I)I"⟩
abbrev cX6_lengthsBut : ByteArray := prog_8_method_48_code
def yX6_lengthsBut : MethodName := ⟨RX6, "lengthsBut", "()I"⟩
abbrev cX6_rest : ByteArray := prog_8_method_49_code
def yX6_rest : MethodName := ⟨RX6, "rest", "()I"⟩
abbrev cX6_rule : ByteArray := prog_8_method_50_code
def yX6_rule : MethodName := ⟨RX6, "rule", "(I)I"⟩
abbrev cX6_cell : ByteArray := prog_8_method_51_code
def yX6_cell : MethodName := ⟨RX6, "cell", "(III)I"⟩
abbrev cX6_rank : ByteArray := prog_8_method_52_code
def yX6_rank : MethodName := ⟨RX6, "rank", "(I)I"⟩
abbrev cX6_nulls : ByteArray := prog_8_method_53_code
def yX6_nulls : MethodName := ⟨RX6, "nulls", "(I)I"⟩
abbrev cX6_col : ByteArray := prog_8_method_54_code
def yX6_col : MethodName := ⟨RX6, "col", "(I)I"⟩
abbrev cX6_row : ByteArray := prog_8_method_55_code
def yX6_row : MethodName := ⟨RX6, "row", "(I)I"⟩
abbrev cX6_chains : ByteArray := prog_8_method_56_code
def yX6_chains : MethodName := ⟨RX6, "chains", "(II)I"⟩
abbrev cX6_length : ByteArray := prog_8_method_57_code
def yX6_length : MethodName := ⟨RX6, "length", "(II)I"⟩
abbrev cX6_startsSteps : ByteArray := prog_8_method_58_code
def yX6_startsSteps : MethodName := ⟨RX6, "startsSteps", "(IZ)V"⟩
abbrev cX6_steps : ByteArray := prog_8_method_59_code
def yX6_steps : MethodName := ⟨RX6, "steps", "(II)I"⟩
abbrev cX6_isColumn : ByteArray := prog_8_method_60_code
def yX6_isColumn : MethodName := ⟨RX6, "isColumn", "(I)Z"⟩
abbrev cX6_go : ByteArray := prog_8_method_61_code
def yX6_go : MethodName := ⟨RX6, "go", "(II)I"⟩
abbrev cX6_rankFrom : ByteArray := prog_8_method_62_code
def yX6_rankFrom : MethodName := ⟨RX6, "rankFrom", "(I)Z"⟩
abbrev cX6_set : ByteArray := prog_8_method_63_code
def yX6_set : MethodName := ⟨RX6, "set", "(IIII)I"⟩
abbrev cX6_open : ByteArray := prog_8_method_64_code
def yX6_open : MethodName := ⟨RX6, "open", "(I)I"⟩
abbrev cX6_shape : ByteArray := prog_8_method_65_code
def yX6_shape : MethodName := ⟨RX6, "shape", "()I"⟩
abbrev cX6_cut : ByteArray := prog_8_method_66_code
def yX6_cut : MethodName := ⟨RX6, "cut", "(II)I"⟩
abbrev cX6_isLine : ByteArray := prog_8_method_67_code
def yX6_isLine : MethodName := ⟨RX6, "isLine", "(II)Z"⟩
abbrev cX6_isTimes : ByteArray := prog_8_method_68_code
def yX6_isTimes : MethodName := ⟨RX6, "isTimes", "(I)Z"⟩
abbrev cX6_lineOf : ByteArray := prog_8_method_69_code
def yX6_lineOf : MethodName := ⟨RX6, "lineOf", "(IIII)I"⟩
abbrev cX6_lineBecomes : ByteArray := prog_8_method_70_code
def yX6_lineBecomes : MethodName := ⟨RX6, "lineBecomes", "(IIIII)V"⟩
abbrev cX6_mix : ByteArray := prog_8_method_71_code
def yX6_mix : MethodName := ⟨RX6, "mix", "(IIII)I"⟩
abbrev cX6_times : ByteArray := prog_8_method_72_code
def yX6_times : MethodName := ⟨RX6, "times", "(III)I"⟩
abbrev cX6_swap : ByteArray := prog_8_method_73_code
def yX6_swap : MethodName := ⟨RX6, "swap", "(III)I"⟩
abbrev cX6_scramble : ByteArray := prog_8_method_74_code
def yX6_scramble : MethodName := ⟨RX6, "scramble", "(II)I"⟩
abbrev cX6_sets1 : ByteArray := prog_8_method_75_code
def yX6_sets1 : MethodName := ⟨RX6, "sets1", "(IIII)V"⟩
abbrev cX6_turn : ByteArray := prog_8_method_76_code
def yX6_turn : MethodName := ⟨RX6, "turn", "(I)I"⟩
abbrev cX6_keep : ByteArray := prog_8_method_77_code
def yX6_keep : MethodName := ⟨RX6, "keep", "(I)I"⟩
abbrev cX6_takes : ByteArray := prog_8_method_78_code
def yX6_takes : MethodName := ⟨RX6, "takes", "(I)V"⟩
abbrev cX6_back : ByteArray := prog_8_method_79_code
def yX6_back : MethodName := ⟨RX6, "back", "(I)I"⟩
abbrev cX6_findForm : ByteArray := prog_8_method_80_code
def yX6_findForm : MethodName := ⟨RX6, "findForm", "([I)V"⟩
abbrev cX6_alike : ByteArray := prog_8_method_81_code
def yX6_alike : MethodName := ⟨RX6, "alike", "(I)I"⟩
abbrev cX6_isSheet : ByteArray := prog_8_method_82_code
def yX6_isSheet : MethodName := ⟨RX6, "isSheet", "(II)Z"⟩
abbrev cX6_sheet : ByteArray := prog_8_method_83_code
def yX6_sheet : MethodName := ⟨RX6, "sheet", "(III)I"⟩
abbrev cX6_lay : ByteArray := prog_8_method_84_code
def yX6_lay : MethodName := ⟨RX6, "lay", "(III)I"⟩
abbrev cX6_read : ByteArray := prog_8_method_85_code
def yX6_read : MethodName := ⟨RX6, "read", "(IIII)I"⟩
abbrev cX6_torn : ByteArray := prog_8_method_86_code
def yX6_torn : MethodName := ⟨RX6, "torn", "()I"⟩
abbrev cX6_sumOf : ByteArray := prog_8_method_87_code
def yX6_sumOf : MethodName := ⟨RX6, "sumOf", "(IZ)I"⟩
abbrev cX6_count : ByteArray := prog_8_method_88_code
def yX6_count : MethodName := ⟨RX6, "count", "(I)I"⟩
def RJx145de : String := "java/io/Serializable"
def TJx145de : u_T := fun k => match k with
  | _ => ("", "", "", false)
def tyJx145de : Nat → FieldType := fun k => match k with
  | _ => .int
abbrev wsJx145de0 : List Cond := u_ws RJx145de TJx145de 0
theorem nmJx145de : ∀ a, a < 0 → ∀ b, b < 0 → a ≠ b → (TJx145de a).2.1 ≠ (TJx145de b).2.1 := by decide +kernel
theorem tyJx145de_ok : ∀ k, k < 0 → parseFieldDescriptor (TJx145de k).2.2.1 = some (tyJx145de k) := by decide +kernel
def RJx9f9b0 : String := "java/lang/CharSequence"
def TJx9f9b0 : u_T := fun k => match k with
  | _ => ("", "", "", false)
def tyJx9f9b0 : Nat → FieldType := fun k => match k with
  | _ => .int
abbrev wsJx9f9b00 : List Cond := u_ws RJx9f9b0 TJx9f9b0 0
theorem nmJx9f9b0 : ∀ a, a < 0 → ∀ b, b < 0 → a ≠ b → (TJx9f9b0 a).2.1 ≠ (TJx9f9b0 b).2.1 := by decide +kernel
theorem tyJx9f9b0_ok : ∀ k, k < 0 → parseFieldDescriptor (TJx9f9b0 k).2.2.1 = some (tyJx9f9b0 k) := by decide +kernel
def RJxb160c : String := "java/lang/Comparable"
def TJxb160c : u_T := fun k => match k with
  | _ => ("", "", "", false)
def tyJxb160c : Nat → FieldType := fun k => match k with
  | _ => .int
abbrev wsJxb160c0 : List Cond := u_ws RJxb160c TJxb160c 0
theorem nmJxb160c : ∀ a, a < 0 → ∀ b, b < 0 → a ≠ b → (TJxb160c a).2.1 ≠ (TJxb160c b).2.1 := by decide +kernel
theorem tyJxb160c_ok : ∀ k, k < 0 → parseFieldDescriptor (TJxb160c k).2.2.1 = some (tyJxb160c k) := by decide +kernel
def RJ9 : String := "java/lang/Math"
def TJ9 : u_T := fun k => match k with
  | _ => ("", "", "", false)
def tyJ9 : Nat → FieldType := fun k => match k with
  | _ => .int
abbrev wsJ90 : List Cond := u_ws RJ9 TJ9 0
theorem nmJ9 : ∀ a, a < 0 → ∀ b, b < 0 → a ≠ b → (TJ9 a).2.1 ≠ (TJ9 b).2.1 := by decide +kernel
theorem tyJ9_ok : ∀ k, k < 0 → parseFieldDescriptor (TJ9 k).2.2.1 = some (tyJ9 k) := by decide +kernel
abbrev cJ9_max_7cf53 : ByteArray := prog_9_method_65_code
def yJ9_max_7cf53 : MethodName := ⟨RJ9, "max", "(II)I"⟩
abbrev cJ9_min_7cf53 : ByteArray := prog_9_method_69_code
def yJ9_min_7cf53 : MethodName := ⟨RJ9, "min", "(II)I"⟩
def RJ0 : String := "java/lang/String"
def TJ0 : u_T := fun k => match k with
  | _ => ("", "", "", false)
def tyJ0 : Nat → FieldType := fun k => match k with
  | _ => .int
abbrev wsJ00 : List Cond := u_ws RJ0 TJ0 0
theorem nmJ0 : ∀ a, a < 0 → ∀ b, b < 0 → a ≠ b → (TJ0 a).2.1 ≠ (TJ0 b).2.1 := by decide +kernel
theorem tyJ0_ok : ∀ k, k < 0 → parseFieldDescriptor (TJ0 k).2.2.1 = some (tyJ0 k) := by decide +kernel
abbrev cJ0_length_8abf5 : ByteArray := prog_10_method_54_code
def yJ0_length_8abf5 : MethodName := ⟨RJ0, "length", "()I"⟩
abbrev cJ0_charAt_5068e : ByteArray := prog_10_method_56_code
def yJ0_charAt_5068e : MethodName := ⟨RJ0, "charAt", "(I)C"⟩
abbrev cJ0_coder_7d493 : ByteArray := prog_10_method_152_code
def yJ0_coder_7d493 : MethodName := ⟨RJ0, "coder", "()B"⟩
abbrev cJ0_isLatin1_aae02 : ByteArray := prog_10_method_154_code
def yJ0_isLatin1_aae02 : MethodName := ⟨RJ0, "isLatin1", "()Z"⟩
abbrev cJ0_checkIndex_df160 : ByteArray := prog_10_method_155_code
def yJ0_checkIndex_df160 : MethodName := ⟨RJ0, "checkIndex", "(II)V"⟩
def RJ1 : String := "java/lang/StringLatin1"
def TJ1 : u_T := fun k => match k with
  | _ => ("", "", "", false)
def tyJ1 : Nat → FieldType := fun k => match k with
  | _ => .int
abbrev wsJ10 : List Cond := u_ws RJ1 TJ1 0
theorem nmJ1 : ∀ a, a < 0 → ∀ b, b < 0 → a ≠ b → (TJ1 a).2.1 ≠ (TJ1 b).2.1 := by decide +kernel
theorem tyJ1_ok : ∀ k, k < 0 → parseFieldDescriptor (TJ1 k).2.2.1 = some (tyJ1 k) := by decide +kernel
abbrev cJ1_charAt_3b067 : ByteArray := prog_11_method_2_code
def yJ1_charAt_3b067 : MethodName := ⟨RJ1, "charAt", "([BI)C"⟩
def RJ2 : String := "java/lang/StringUTF16"
def TJ2 : u_T := fun k => match k with
  | _ => ("", "", "", false)
def tyJ2 : Nat → FieldType := fun k => match k with
  | _ => .int
abbrev wsJ20 : List Cond := u_ws RJ2 TJ2 0
theorem nmJ2 : ∀ a, a < 0 → ∀ b, b < 0 → a ≠ b → (TJ2 a).2.1 ≠ (TJ2 b).2.1 := by decide +kernel
theorem tyJ2_ok : ∀ k, k < 0 → parseFieldDescriptor (TJ2 k).2.2.1 = some (tyJ2 k) := by decide +kernel
abbrev cJ2_getChar_3b067 : ByteArray := prog_12_method_5_code
def yJ2_getChar_3b067 : MethodName := ⟨RJ2, "getChar", "([BI)C"⟩
abbrev cJ2_length_9d52b : ByteArray := prog_12_method_6_code
def yJ2_length_9d52b : MethodName := ⟨RJ2, "length", "([B)I"⟩
abbrev cJ2_charAt_3b067 : ByteArray := prog_12_method_83_code
def yJ2_charAt_3b067 : MethodName := ⟨RJ2, "charAt", "([BI)C"⟩
abbrev cJ2_checkIndex_2214a : ByteArray := prog_12_method_91_code
def yJ2_checkIndex_2214a : MethodName := ⟨RJ2, "checkIndex", "(I[B)V"⟩
def RJ10 : String := "java/lang/System"
def TJ10 : u_T := fun k => match k with
  | _ => ("", "", "", false)
def tyJ10 : Nat → FieldType := fun k => match k with
  | _ => .int
abbrev wsJ100 : List Cond := u_ws RJ10 TJ10 0
theorem nmJ10 : ∀ a, a < 0 → ∀ b, b < 0 → a ≠ b → (TJ10 a).2.1 ≠ (TJ10 b).2.1 := by decide +kernel
theorem tyJ10_ok : ∀ k, k < 0 → parseFieldDescriptor (TJ10 k).2.2.1 = some (tyJ10 k) := by decide +kernel
def RJxfd54e : String := "java/lang/constant/Constable"
def TJxfd54e : u_T := fun k => match k with
  | _ => ("", "", "", false)
def tyJxfd54e : Nat → FieldType := fun k => match k with
  | _ => .int
abbrev wsJxfd54e0 : List Cond := u_ws RJxfd54e TJxfd54e 0
theorem nmJxfd54e : ∀ a, a < 0 → ∀ b, b < 0 → a ≠ b → (TJxfd54e a).2.1 ≠ (TJxfd54e b).2.1 := by decide +kernel
theorem tyJxfd54e_ok : ∀ k, k < 0 → parseFieldDescriptor (TJxfd54e k).2.2.1 = some (tyJxfd54e k) := by decide +kernel
def RJx3cf43 : String := "java/lang/constant/ConstantDesc"
def TJx3cf43 : u_T := fun k => match k with
  | _ => ("", "", "", false)
def tyJx3cf43 : Nat → FieldType := fun k => match k with
  | _ => .int
abbrev wsJx3cf430 : List Cond := u_ws RJx3cf43 TJx3cf43 0
theorem nmJx3cf43 : ∀ a, a < 0 → ∀ b, b < 0 → a ≠ b → (TJx3cf43 a).2.1 ≠ (TJx3cf43 b).2.1 := by decide +kernel
theorem tyJx3cf43_ok : ∀ k, k < 0 → parseFieldDescriptor (TJx3cf43 k).2.2.1 = some (tyJx3cf43 k) := by decide +kernel
def RJ7 : String := "java/util/Arrays"
def TJ7 : u_T := fun k => match k with
  | _ => ("", "", "", false)
def tyJ7 : Nat → FieldType := fun k => match k with
  | _ => .int
abbrev wsJ70 : List Cond := u_ws RJ7 TJ7 0
theorem nmJ7 : ∀ a, a < 0 → ∀ b, b < 0 → a ≠ b → (TJ7 a).2.1 ≠ (TJ7 b).2.1 := by decide +kernel
theorem tyJ7_ok : ∀ k, k < 0 → parseFieldDescriptor (TJ7 k).2.2.1 = some (tyJ7 k) := by decide +kernel
abbrev cJ7_fill_53178 : ByteArray := prog_14_method_103_code
def yJ7_fill_53178 : MethodName := ⟨RJ7, "fill", "([II)V"⟩
def RJ3 : String := "jdk/internal/util/Preconditions"
def TJ3 : u_T := fun k => match k with
  | _ => ("", "", "", false)
def tyJ3 : Nat → FieldType := fun k => match k with
  | _ => .int
abbrev wsJ30 : List Cond := u_ws RJ3 TJ3 0
theorem nmJ3 : ∀ a, a < 0 → ∀ b, b < 0 → a ≠ b → (TJ3 a).2.1 ≠ (TJ3 b).2.1 := by decide +kernel
theorem tyJ3_ok : ∀ k, k < 0 → parseFieldDescriptor (TJ3 k).2.2.1 = some (tyJ3 k) := by decide +kernel
abbrev cJ3_checkIndex_8e157 : ByteArray := prog_15_method_11_code
def yJ3_checkIndex_8e157 : MethodName := ⟨RJ3, "checkIndex", "(IILjava/util/function/BiFunction;)I"⟩
def RL : String := "PencilFormsLaw"
abbrev cL_law : ByteArray := code
def yL_law : MethodName := ⟨RL, "law", "([I)Z"⟩
end
section
theorem dJ0_length_8abf5_0 : decode cJ0_length_8abf5 0 = .ok (.aload_n 0, 1) := by decide +kernel
theorem dJ0_length_8abf5_1 : decode cJ0_length_8abf5 1 = .ok (.getfield 9, 3) := by decide +kernel
theorem dJ0_length_8abf5_4 : decode cJ0_length_8abf5 4 = .ok (.arraylength, 1) := by decide +kernel
theorem dJ0_length_8abf5_5 : decode cJ0_length_8abf5 5 = .ok (.aload_n 0, 1) := by decide +kernel
theorem dJ0_length_8abf5_6 : decode cJ0_length_8abf5 6 = .ok (.invokevirtual 335, 3) := by decide +kernel
theorem dJ0_length_8abf5_9 : decode cJ0_length_8abf5 9 = .ok (.ishr, 1) := by decide +kernel
theorem dJ0_length_8abf5_10 : decode cJ0_length_8abf5 10 = .ok (.ireturn, 1) := by decide +kernel
theorem dJ0_charAt_5068e_0 : decode cJ0_charAt_5068e 0 = .ok (.aload_n 0, 1) := by decide +kernel
theorem dJ0_charAt_5068e_1 : decode cJ0_charAt_5068e 1 = .ok (.invokevirtual 492, 3) := by decide +kernel
theorem dJ0_charAt_5068e_4 : decode cJ0_charAt_5068e 4 = .ok (.ifCond .eq 12, 3) := by decide +kernel
theorem dJ0_charAt_5068e_7 : decode cJ0_charAt_5068e 7 = .ok (.aload_n 0, 1) := by decide +kernel
theorem dJ0_charAt_5068e_8 : decode cJ0_charAt_5068e 8 = .ok (.getfield 9, 3) := by decide +kernel
theorem dJ0_charAt_5068e_11 : decode cJ0_charAt_5068e 11 = .ok (.iload_n 1, 1) := by decide +kernel
theorem dJ0_charAt_5068e_12 : decode cJ0_charAt_5068e 12 = .ok (.invokestatic 495, 3) := by decide +kernel
theorem dJ0_charAt_5068e_15 : decode cJ0_charAt_5068e 15 = .ok (.ireturn, 1) := by decide +kernel
theorem dJ0_charAt_5068e_16 : decode cJ0_charAt_5068e 16 = .ok (.aload_n 0, 1) := by decide +kernel
theorem dJ0_charAt_5068e_17 : decode cJ0_charAt_5068e 17 = .ok (.getfield 9, 3) := by decide +kernel
theorem dJ0_charAt_5068e_20 : decode cJ0_charAt_5068e 20 = .ok (.iload_n 1, 1) := by decide +kernel
theorem dJ0_charAt_5068e_21 : decode cJ0_charAt_5068e 21 = .ok (.invokestatic 498, 3) := by decide +kernel
theorem dJ0_charAt_5068e_24 : decode cJ0_charAt_5068e 24 = .ok (.ireturn, 1) := by decide +kernel
theorem dJ0_coder_7d493_0 : decode cJ0_coder_7d493 0 = .ok (.getstatic 38, 3) := by decide +kernel
theorem dJ0_coder_7d493_3 : decode cJ0_coder_7d493 3 = .ok (.ifCond .eq 10, 3) := by decide +kernel
theorem dJ0_coder_7d493_6 : decode cJ0_coder_7d493 6 = .ok (.aload_n 0, 1) := by decide +kernel
theorem dJ0_coder_7d493_7 : decode cJ0_coder_7d493 7 = .ok (.getfield 15, 3) := by decide +kernel
theorem dJ0_coder_7d493_10 : decode cJ0_coder_7d493 10 = .ok (.goto 4, 3) := by decide +kernel
theorem dJ0_coder_7d493_13 : decode cJ0_coder_7d493 13 = .ok (.iconst 1, 1) := by decide +kernel
theorem dJ0_coder_7d493_14 : decode cJ0_coder_7d493 14 = .ok (.ireturn, 1) := by decide +kernel
theorem dJ0_isLatin1_aae02_0 : decode cJ0_isLatin1_aae02 0 = .ok (.getstatic 38, 3) := by decide +kernel
theorem dJ0_isLatin1_aae02_3 : decode cJ0_isLatin1_aae02 3 = .ok (.ifCond .eq 14, 3) := by decide +kernel
theorem dJ0_isLatin1_aae02_6 : decode cJ0_isLatin1_aae02 6 = .ok (.aload_n 0, 1) := by decide +kernel
theorem dJ0_isLatin1_aae02_7 : decode cJ0_isLatin1_aae02 7 = .ok (.getfield 15, 3) := by decide +kernel
theorem dJ0_isLatin1_aae02_10 : decode cJ0_isLatin1_aae02 10 = .ok (.ifCond .ne 7, 3) := by decide +kernel
theorem dJ0_isLatin1_aae02_13 : decode cJ0_isLatin1_aae02 13 = .ok (.iconst 1, 1) := by decide +kernel
theorem dJ0_isLatin1_aae02_14 : decode cJ0_isLatin1_aae02 14 = .ok (.goto 4, 3) := by decide +kernel
theorem dJ0_isLatin1_aae02_17 : decode cJ0_isLatin1_aae02 17 = .ok (.iconst 0, 1) := by decide +kernel
theorem dJ0_isLatin1_aae02_18 : decode cJ0_isLatin1_aae02 18 = .ok (.ireturn, 1) := by decide +kernel
theorem dJ0_checkIndex_df160_0 : decode cJ0_checkIndex_df160 0 = .ok (.iload_n 0, 1) := by decide +kernel
theorem dJ0_checkIndex_df160_1 : decode cJ0_checkIndex_df160 1 = .ok (.iload_n 1, 1) := by decide +kernel
theorem dJ0_checkIndex_df160_2 : decode cJ0_checkIndex_df160 2 = .ok (.getstatic 1053, 3) := by decide +kernel
theorem dJ0_checkIndex_df160_5 : decode cJ0_checkIndex_df160 5 = .ok (.invokestatic 1059, 3) := by decide +kernel
theorem dJ0_checkIndex_df160_8 : decode cJ0_checkIndex_df160 8 = .ok (.pop, 1) := by decide +kernel
theorem dJ0_checkIndex_df160_9 : decode cJ0_checkIndex_df160 9 = .ok (.return_, 1) := by decide +kernel
end
section
theorem dJ1_charAt_3b067_0 : decode cJ1_charAt_3b067 0 = .ok (.iload_n 1, 1) := by decide +kernel
theorem dJ1_charAt_3b067_1 : decode cJ1_charAt_3b067 1 = .ok (.aload_n 0, 1) := by decide +kernel
theorem dJ1_charAt_3b067_2 : decode cJ1_charAt_3b067 2 = .ok (.arraylength, 1) := by decide +kernel
theorem dJ1_charAt_3b067_3 : decode cJ1_charAt_3b067 3 = .ok (.invokestatic 9, 3) := by decide +kernel
theorem dJ1_charAt_3b067_6 : decode cJ1_charAt_3b067 6 = .ok (.aload_n 0, 1) := by decide +kernel
theorem dJ1_charAt_3b067_7 : decode cJ1_charAt_3b067 7 = .ok (.iload_n 1, 1) := by decide +kernel
theorem dJ1_charAt_3b067_8 : decode cJ1_charAt_3b067 8 = .ok (.baload, 1) := by decide +kernel
theorem dJ1_charAt_3b067_9 : decode cJ1_charAt_3b067 9 = .ok (.sipush 255, 3) := by decide +kernel
theorem dJ1_charAt_3b067_12 : decode cJ1_charAt_3b067 12 = .ok (.iand, 1) := by decide +kernel
theorem dJ1_charAt_3b067_13 : decode cJ1_charAt_3b067 13 = .ok (.i2c, 1) := by decide +kernel
theorem dJ1_charAt_3b067_14 : decode cJ1_charAt_3b067 14 = .ok (.ireturn, 1) := by decide +kernel
end
section
theorem dJ2_getChar_3b067_0 : decode cJ2_getChar_3b067 0 = .ok (.getstatic 44, 3) := by decide +kernel
theorem dJ2_getChar_3b067_3 : decode cJ2_getChar_3b067 3 = .ok (.ifCond .ne 25, 3) := by decide +kernel
theorem dJ2_getChar_3b067_6 : decode cJ2_getChar_3b067 6 = .ok (.iload_n 1, 1) := by decide +kernel
theorem dJ2_getChar_3b067_7 : decode cJ2_getChar_3b067 7 = .ok (.ifCond .lt 11, 3) := by decide +kernel
theorem dJ2_getChar_3b067_10 : decode cJ2_getChar_3b067 10 = .ok (.iload_n 1, 1) := by decide +kernel
theorem dJ2_getChar_3b067_11 : decode cJ2_getChar_3b067 11 = .ok (.aload_n 0, 1) := by decide +kernel
theorem dJ2_getChar_3b067_12 : decode cJ2_getChar_3b067 12 = .ok (.invokestatic 48, 3) := by decide +kernel
theorem dJ2_getChar_3b067_15 : decode cJ2_getChar_3b067 15 = .ok (.if_icmp .lt 13, 3) := by decide +kernel
theorem dJ2_getChar_3b067_18 : decode cJ2_getChar_3b067 18 = .ok (.new 52, 3) := by decide +kernel
theorem dJ2_getChar_3b067_21 : decode cJ2_getChar_3b067 21 = .ok (.dup, 1) := by decide +kernel
theorem dJ2_getChar_3b067_22 : decode cJ2_getChar_3b067 22 = .ok (.ldc 54, 2) := by decide +kernel
theorem dJ2_getChar_3b067_24 : decode cJ2_getChar_3b067 24 = .ok (.invokespecial 56, 3) := by decide +kernel
theorem dJ2_getChar_3b067_27 : decode cJ2_getChar_3b067 27 = .ok (.athrow, 1) := by decide +kernel
theorem dJ2_getChar_3b067_28 : decode cJ2_getChar_3b067 28 = .ok (.iload_n 1, 1) := by decide +kernel
theorem dJ2_getChar_3b067_29 : decode cJ2_getChar_3b067 29 = .ok (.iconst 1, 1) := by decide +kernel
theorem dJ2_getChar_3b067_30 : decode cJ2_getChar_3b067 30 = .ok (.ishl, 1) := by decide +kernel
theorem dJ2_getChar_3b067_31 : decode cJ2_getChar_3b067 31 = .ok (.istore_n 1, 1) := by decide +kernel
theorem dJ2_getChar_3b067_32 : decode cJ2_getChar_3b067 32 = .ok (.aload_n 0, 1) := by decide +kernel
theorem dJ2_getChar_3b067_33 : decode cJ2_getChar_3b067 33 = .ok (.iload_n 1, 1) := by decide +kernel
theorem dJ2_getChar_3b067_34 : decode cJ2_getChar_3b067 34 = .ok (.iinc 1 1, 3) := by decide +kernel
theorem dJ2_getChar_3b067_37 : decode cJ2_getChar_3b067 37 = .ok (.baload, 1) := by decide +kernel
theorem dJ2_getChar_3b067_38 : decode cJ2_getChar_3b067 38 = .ok (.sipush 255, 3) := by decide +kernel
theorem dJ2_getChar_3b067_41 : decode cJ2_getChar_3b067 41 = .ok (.iand, 1) := by decide +kernel
theorem dJ2_getChar_3b067_42 : decode cJ2_getChar_3b067 42 = .ok (.getstatic 59, 3) := by decide +kernel
theorem dJ2_getChar_3b067_45 : decode cJ2_getChar_3b067 45 = .ok (.ishl, 1) := by decide +kernel
theorem dJ2_getChar_3b067_46 : decode cJ2_getChar_3b067 46 = .ok (.aload_n 0, 1) := by decide +kernel
theorem dJ2_getChar_3b067_47 : decode cJ2_getChar_3b067 47 = .ok (.iload_n 1, 1) := by decide +kernel
theorem dJ2_getChar_3b067_48 : decode cJ2_getChar_3b067 48 = .ok (.baload, 1) := by decide +kernel
theorem dJ2_getChar_3b067_49 : decode cJ2_getChar_3b067 49 = .ok (.sipush 255, 3) := by decide +kernel
theorem dJ2_getChar_3b067_52 : decode cJ2_getChar_3b067 52 = .ok (.iand, 1) := by decide +kernel
theorem dJ2_getChar_3b067_53 : decode cJ2_getChar_3b067 53 = .ok (.getstatic 63, 3) := by decide +kernel
theorem dJ2_getChar_3b067_56 : decode cJ2_getChar_3b067 56 = .ok (.ishl, 1) := by decide +kernel
theorem dJ2_getChar_3b067_57 : decode cJ2_getChar_3b067 57 = .ok (.ior, 1) := by decide +kernel
theorem dJ2_getChar_3b067_58 : decode cJ2_getChar_3b067 58 = .ok (.i2c, 1) := by decide +kernel
theorem dJ2_getChar_3b067_59 : decode cJ2_getChar_3b067 59 = .ok (.ireturn, 1) := by decide +kernel
theorem dJ2_length_9d52b_0 : decode cJ2_length_9d52b 0 = .ok (.aload_n 0, 1) := by decide +kernel
theorem dJ2_length_9d52b_1 : decode cJ2_length_9d52b 1 = .ok (.arraylength, 1) := by decide +kernel
theorem dJ2_length_9d52b_2 : decode cJ2_length_9d52b 2 = .ok (.iconst 1, 1) := by decide +kernel
theorem dJ2_length_9d52b_3 : decode cJ2_length_9d52b 3 = .ok (.ishr, 1) := by decide +kernel
theorem dJ2_length_9d52b_4 : decode cJ2_length_9d52b 4 = .ok (.ireturn, 1) := by decide +kernel
theorem dJ2_charAt_3b067_0 : decode cJ2_charAt_3b067 0 = .ok (.iload_n 1, 1) := by decide +kernel
theorem dJ2_charAt_3b067_1 : decode cJ2_charAt_3b067 1 = .ok (.aload_n 0, 1) := by decide +kernel
theorem dJ2_charAt_3b067_2 : decode cJ2_charAt_3b067 2 = .ok (.invokestatic 67, 3) := by decide +kernel
theorem dJ2_charAt_3b067_5 : decode cJ2_charAt_3b067 5 = .ok (.aload_n 0, 1) := by decide +kernel
theorem dJ2_charAt_3b067_6 : decode cJ2_charAt_3b067 6 = .ok (.iload_n 1, 1) := by decide +kernel
theorem dJ2_charAt_3b067_7 : decode cJ2_charAt_3b067 7 = .ok (.invokestatic 71, 3) := by decide +kernel
theorem dJ2_charAt_3b067_10 : decode cJ2_charAt_3b067 10 = .ok (.ireturn, 1) := by decide +kernel
theorem dJ2_checkIndex_2214a_0 : decode cJ2_checkIndex_2214a 0 = .ok (.iload_n 0, 1) := by decide +kernel
theorem dJ2_checkIndex_2214a_1 : decode cJ2_checkIndex_2214a 1 = .ok (.aload_n 1, 1) := by decide +kernel
theorem dJ2_checkIndex_2214a_2 : decode cJ2_checkIndex_2214a 2 = .ok (.invokestatic 48, 3) := by decide +kernel
theorem dJ2_checkIndex_2214a_5 : decode cJ2_checkIndex_2214a 5 = .ok (.invokestatic 414, 3) := by decide +kernel
theorem dJ2_checkIndex_2214a_8 : decode cJ2_checkIndex_2214a 8 = .ok (.return_, 1) := by decide +kernel
end
section
theorem dJ3_checkIndex_8e157_0 : decode cJ3_checkIndex_8e157 0 = .ok (.iload_n 0, 1) := by decide +kernel
theorem dJ3_checkIndex_8e157_1 : decode cJ3_checkIndex_8e157 1 = .ok (.ifCond .lt 8, 3) := by decide +kernel
theorem dJ3_checkIndex_8e157_4 : decode cJ3_checkIndex_8e157 4 = .ok (.iload_n 0, 1) := by decide +kernel
theorem dJ3_checkIndex_8e157_5 : decode cJ3_checkIndex_8e157 5 = .ok (.iload_n 1, 1) := by decide +kernel
theorem dJ3_checkIndex_8e157_6 : decode cJ3_checkIndex_8e157 6 = .ok (.if_icmp .lt 10, 3) := by decide +kernel
theorem dJ3_checkIndex_8e157_9 : decode cJ3_checkIndex_8e157 9 = .ok (.aload_n 2, 1) := by decide +kernel
theorem dJ3_checkIndex_8e157_10 : decode cJ3_checkIndex_8e157 10 = .ok (.iload_n 0, 1) := by decide +kernel
theorem dJ3_checkIndex_8e157_11 : decode cJ3_checkIndex_8e157 11 = .ok (.iload_n 1, 1) := by decide +kernel
theorem dJ3_checkIndex_8e157_12 : decode cJ3_checkIndex_8e157 12 = .ok (.invokestatic 95, 3) := by decide +kernel
theorem dJ3_checkIndex_8e157_15 : decode cJ3_checkIndex_8e157 15 = .ok (.athrow, 1) := by decide +kernel
theorem dJ3_checkIndex_8e157_16 : decode cJ3_checkIndex_8e157 16 = .ok (.iload_n 0, 1) := by decide +kernel
theorem dJ3_checkIndex_8e157_17 : decode cJ3_checkIndex_8e157 17 = .ok (.ireturn, 1) := by decide +kernel
end
section
theorem dJ7_fill_53178_0 : decode cJ7_fill_53178 0 = .ok (.iconst 0, 1) := by decide +kernel
theorem dJ7_fill_53178_1 : decode cJ7_fill_53178 1 = .ok (.istore_n 2, 1) := by decide +kernel
theorem dJ7_fill_53178_2 : decode cJ7_fill_53178 2 = .ok (.aload_n 0, 1) := by decide +kernel
theorem dJ7_fill_53178_3 : decode cJ7_fill_53178 3 = .ok (.arraylength, 1) := by decide +kernel
theorem dJ7_fill_53178_4 : decode cJ7_fill_53178 4 = .ok (.istore_n 3, 1) := by decide +kernel
theorem dJ7_fill_53178_5 : decode cJ7_fill_53178 5 = .ok (.iload_n 2, 1) := by decide +kernel
theorem dJ7_fill_53178_6 : decode cJ7_fill_53178 6 = .ok (.iload_n 3, 1) := by decide +kernel
theorem dJ7_fill_53178_7 : decode cJ7_fill_53178 7 = .ok (.if_icmp .ge 13, 3) := by decide +kernel
theorem dJ7_fill_53178_10 : decode cJ7_fill_53178 10 = .ok (.aload_n 0, 1) := by decide +kernel
theorem dJ7_fill_53178_11 : decode cJ7_fill_53178 11 = .ok (.iload_n 2, 1) := by decide +kernel
theorem dJ7_fill_53178_12 : decode cJ7_fill_53178 12 = .ok (.iload_n 1, 1) := by decide +kernel
theorem dJ7_fill_53178_13 : decode cJ7_fill_53178 13 = .ok (.iastore, 1) := by decide +kernel
theorem dJ7_fill_53178_14 : decode cJ7_fill_53178 14 = .ok (.iinc 2 1, 3) := by decide +kernel
theorem dJ7_fill_53178_17 : decode cJ7_fill_53178 17 = .ok (.goto (-12), 3) := by decide +kernel
theorem dJ7_fill_53178_20 : decode cJ7_fill_53178 20 = .ok (.return_, 1) := by decide +kernel
end
section
theorem dJ9_max_7cf53_0 : decode cJ9_max_7cf53 0 = .ok (.iload_n 0, 1) := by decide +kernel
theorem dJ9_max_7cf53_1 : decode cJ9_max_7cf53 1 = .ok (.iload_n 1, 1) := by decide +kernel
theorem dJ9_max_7cf53_2 : decode cJ9_max_7cf53 2 = .ok (.if_icmp .lt 7, 3) := by decide +kernel
theorem dJ9_max_7cf53_5 : decode cJ9_max_7cf53 5 = .ok (.iload_n 0, 1) := by decide +kernel
theorem dJ9_max_7cf53_6 : decode cJ9_max_7cf53 6 = .ok (.goto 4, 3) := by decide +kernel
theorem dJ9_max_7cf53_9 : decode cJ9_max_7cf53 9 = .ok (.iload_n 1, 1) := by decide +kernel
theorem dJ9_max_7cf53_10 : decode cJ9_max_7cf53 10 = .ok (.ireturn, 1) := by decide +kernel
theorem dJ9_min_7cf53_0 : decode cJ9_min_7cf53 0 = .ok (.iload_n 0, 1) := by decide +kernel
theorem dJ9_min_7cf53_1 : decode cJ9_min_7cf53 1 = .ok (.iload_n 1, 1) := by decide +kernel
theorem dJ9_min_7cf53_2 : decode cJ9_min_7cf53 2 = .ok (.if_icmp .gt 7, 3) := by decide +kernel
theorem dJ9_min_7cf53_5 : decode cJ9_min_7cf53 5 = .ok (.iload_n 0, 1) := by decide +kernel
theorem dJ9_min_7cf53_6 : decode cJ9_min_7cf53 6 = .ok (.goto 4, 3) := by decide +kernel
theorem dJ9_min_7cf53_9 : decode cJ9_min_7cf53 9 = .ok (.iload_n 1, 1) := by decide +kernel
theorem dJ9_min_7cf53_10 : decode cJ9_min_7cf53 10 = .ok (.ireturn, 1) := by decide +kernel
end
section
theorem dL_law_0 : decode cL_law 0 = .ok (.new 7, 3) := by decide +kernel
theorem dL_law_3 : decode cL_law 3 = .ok (.dup, 1) := by decide +kernel
theorem dL_law_4 : decode cL_law 4 = .ok (.invokespecial 9, 3) := by decide +kernel
theorem dL_law_7 : decode cL_law 7 = .ok (.astore_n 1, 1) := by decide +kernel
theorem dL_law_8 : decode cL_law 8 = .ok (.new 10, 3) := by decide +kernel
theorem dL_law_11 : decode cL_law 11 = .ok (.dup, 1) := by decide +kernel
theorem dL_law_12 : decode cL_law 12 = .ok (.invokespecial 12, 3) := by decide +kernel
theorem dL_law_15 : decode cL_law 15 = .ok (.astore_n 2, 1) := by decide +kernel
theorem dL_law_16 : decode cL_law 16 = .ok (.iconst 0, 1) := by decide +kernel
theorem dL_law_17 : decode cL_law 17 = .ok (.istore_n 3, 1) := by decide +kernel
theorem dL_law_18 : decode cL_law 18 = .ok (.iload_n 3, 1) := by decide +kernel
theorem dL_law_19 : decode cL_law 19 = .ok (.aload_n 0, 1) := by decide +kernel
theorem dL_law_20 : decode cL_law 20 = .ok (.arraylength, 1) := by decide +kernel
theorem dL_law_21 : decode cL_law 21 = .ok (.iconst 5, 1) := by decide +kernel
theorem dL_law_22 : decode cL_law 22 = .ok (.isub, 1) := by decide +kernel
theorem dL_law_23 : decode cL_law 23 = .ok (.if_icmp .gt 1061, 3) := by decide +kernel
theorem dL_law_26 : decode cL_law 26 = .ok (.aload_n 0, 1) := by decide +kernel
theorem dL_law_27 : decode cL_law 27 = .ok (.iload_n 3, 1) := by decide +kernel
theorem dL_law_28 : decode cL_law 28 = .ok (.iaload, 1) := by decide +kernel
theorem dL_law_29 : decode cL_law 29 = .ok (.bipush 31, 2) := by decide +kernel
theorem dL_law_31 : decode cL_law 31 = .ok (.iand, 1) := by decide +kernel
theorem dL_law_32 : decode cL_law 32 = .ok (.tableswitch 1046 0 29 #[136, 159, 182, 195, 208, 231, 274, 297, 320, 343, 366, 399, 432, 465, 498, 551, 574, 607, 660, 703, 746, 779, 802, 825, 848, 871, 914, 957, 1010, 1023], 136) := by decide +kernel
theorem dL_law_168 : decode cL_law 168 = .ok (.aload_n 1, 1) := by decide +kernel
theorem dL_law_169 : decode cL_law 169 = .ok (.aload_n 0, 1) := by decide +kernel
theorem dL_law_170 : decode cL_law 170 = .ok (.iload_n 3, 1) := by decide +kernel
theorem dL_law_171 : decode cL_law 171 = .ok (.iconst 1, 1) := by decide +kernel
theorem dL_law_172 : decode cL_law 172 = .ok (.iadd, 1) := by decide +kernel
theorem dL_law_173 : decode cL_law 173 = .ok (.iaload, 1) := by decide +kernel
theorem dL_law_174 : decode cL_law 174 = .ok (.invokevirtual 13, 3) := by decide +kernel
theorem dL_law_177 : decode cL_law 177 = .ok (.aload_n 2, 1) := by decide +kernel
theorem dL_law_178 : decode cL_law 178 = .ok (.aload_n 0, 1) := by decide +kernel
theorem dL_law_179 : decode cL_law 179 = .ok (.iload_n 3, 1) := by decide +kernel
theorem dL_law_180 : decode cL_law 180 = .ok (.iconst 1, 1) := by decide +kernel
theorem dL_law_181 : decode cL_law 181 = .ok (.iadd, 1) := by decide +kernel
theorem dL_law_182 : decode cL_law 182 = .ok (.iaload, 1) := by decide +kernel
theorem dL_law_183 : decode cL_law 183 = .ok (.invokevirtual 17, 3) := by decide +kernel
theorem dL_law_186 : decode cL_law 186 = .ok (.if_icmp .eq 892, 3) := by decide +kernel
theorem dL_law_189 : decode cL_law 189 = .ok (.iconst 0, 1) := by decide +kernel
theorem dL_law_190 : decode cL_law 190 = .ok (.ireturn, 1) := by decide +kernel
theorem dL_law_191 : decode cL_law 191 = .ok (.aload_n 1, 1) := by decide +kernel
theorem dL_law_192 : decode cL_law 192 = .ok (.aload_n 0, 1) := by decide +kernel
theorem dL_law_193 : decode cL_law 193 = .ok (.iload_n 3, 1) := by decide +kernel
theorem dL_law_194 : decode cL_law 194 = .ok (.iconst 1, 1) := by decide +kernel
theorem dL_law_195 : decode cL_law 195 = .ok (.iadd, 1) := by decide +kernel
theorem dL_law_196 : decode cL_law 196 = .ok (.iaload, 1) := by decide +kernel
theorem dL_law_197 : decode cL_law 197 = .ok (.invokevirtual 18, 3) := by decide +kernel
theorem dL_law_200 : decode cL_law 200 = .ok (.aload_n 2, 1) := by decide +kernel
theorem dL_law_201 : decode cL_law 201 = .ok (.aload_n 0, 1) := by decide +kernel
theorem dL_law_202 : decode cL_law 202 = .ok (.iload_n 3, 1) := by decide +kernel
theorem dL_law_203 : decode cL_law 203 = .ok (.iconst 1, 1) := by decide +kernel
theorem dL_law_204 : decode cL_law 204 = .ok (.iadd, 1) := by decide +kernel
theorem dL_law_205 : decode cL_law 205 = .ok (.iaload, 1) := by decide +kernel
theorem dL_law_206 : decode cL_law 206 = .ok (.invokevirtual 21, 3) := by decide +kernel
theorem dL_law_209 : decode cL_law 209 = .ok (.if_icmp .eq 869, 3) := by decide +kernel
theorem dL_law_212 : decode cL_law 212 = .ok (.iconst 0, 1) := by decide +kernel
theorem dL_law_213 : decode cL_law 213 = .ok (.ireturn, 1) := by decide +kernel
theorem dL_law_214 : decode cL_law 214 = .ok (.aload_n 1, 1) := by decide +kernel
theorem dL_law_215 : decode cL_law 215 = .ok (.invokevirtual 22, 3) := by decide +kernel
theorem dL_law_218 : decode cL_law 218 = .ok (.aload_n 2, 1) := by decide +kernel
theorem dL_law_219 : decode cL_law 219 = .ok (.invokevirtual 26, 3) := by decide +kernel
theorem dL_law_222 : decode cL_law 222 = .ok (.if_icmp .eq 856, 3) := by decide +kernel
theorem dL_law_225 : decode cL_law 225 = .ok (.iconst 0, 1) := by decide +kernel
theorem dL_law_226 : decode cL_law 226 = .ok (.ireturn, 1) := by decide +kernel
theorem dL_law_227 : decode cL_law 227 = .ok (.aload_n 1, 1) := by decide +kernel
theorem dL_law_228 : decode cL_law 228 = .ok (.invokevirtual 27, 3) := by decide +kernel
theorem dL_law_231 : decode cL_law 231 = .ok (.aload_n 2, 1) := by decide +kernel
theorem dL_law_232 : decode cL_law 232 = .ok (.invokevirtual 30, 3) := by decide +kernel
theorem dL_law_235 : decode cL_law 235 = .ok (.if_icmp .eq 843, 3) := by decide +kernel
theorem dL_law_238 : decode cL_law 238 = .ok (.iconst 0, 1) := by decide +kernel
theorem dL_law_239 : decode cL_law 239 = .ok (.ireturn, 1) := by decide +kernel
theorem dL_law_240 : decode cL_law 240 = .ok (.aload_n 1, 1) := by decide +kernel
theorem dL_law_241 : decode cL_law 241 = .ok (.aload_n 0, 1) := by decide +kernel
theorem dL_law_242 : decode cL_law 242 = .ok (.iload_n 3, 1) := by decide +kernel
theorem dL_law_243 : decode cL_law 243 = .ok (.iconst 1, 1) := by decide +kernel
theorem dL_law_244 : decode cL_law 244 = .ok (.iadd, 1) := by decide +kernel
theorem dL_law_245 : decode cL_law 245 = .ok (.iaload, 1) := by decide +kernel
theorem dL_law_246 : decode cL_law 246 = .ok (.invokevirtual 31, 3) := by decide +kernel
theorem dL_law_249 : decode cL_law 249 = .ok (.aload_n 2, 1) := by decide +kernel
theorem dL_law_250 : decode cL_law 250 = .ok (.aload_n 0, 1) := by decide +kernel
theorem dL_law_251 : decode cL_law 251 = .ok (.iload_n 3, 1) := by decide +kernel
theorem dL_law_252 : decode cL_law 252 = .ok (.iconst 1, 1) := by decide +kernel
theorem dL_law_253 : decode cL_law 253 = .ok (.iadd, 1) := by decide +kernel
theorem dL_law_254 : decode cL_law 254 = .ok (.iaload, 1) := by decide +kernel
theorem dL_law_255 : decode cL_law 255 = .ok (.invokevirtual 34, 3) := by decide +kernel
theorem dL_law_258 : decode cL_law 258 = .ok (.if_icmp .eq 820, 3) := by decide +kernel
theorem dL_law_261 : decode cL_law 261 = .ok (.iconst 0, 1) := by decide +kernel
theorem dL_law_262 : decode cL_law 262 = .ok (.ireturn, 1) := by decide +kernel
theorem dL_law_263 : decode cL_law 263 = .ok (.aload_n 1, 1) := by decide +kernel
theorem dL_law_264 : decode cL_law 264 = .ok (.aload_n 0, 1) := by decide +kernel
theorem dL_law_265 : decode cL_law 265 = .ok (.iload_n 3, 1) := by decide +kernel
theorem dL_law_266 : decode cL_law 266 = .ok (.iconst 1, 1) := by decide +kernel
theorem dL_law_267 : decode cL_law 267 = .ok (.iadd, 1) := by decide +kernel
theorem dL_law_268 : decode cL_law 268 = .ok (.iaload, 1) := by decide +kernel
theorem dL_law_269 : decode cL_law 269 = .ok (.aload_n 0, 1) := by decide +kernel
theorem dL_law_270 : decode cL_law 270 = .ok (.iload_n 3, 1) := by decide +kernel
theorem dL_law_271 : decode cL_law 271 = .ok (.iconst 2, 1) := by decide +kernel
theorem dL_law_272 : decode cL_law 272 = .ok (.iadd, 1) := by decide +kernel
theorem dL_law_273 : decode cL_law 273 = .ok (.iaload, 1) := by decide +kernel
theorem dL_law_274 : decode cL_law 274 = .ok (.aload_n 0, 1) := by decide +kernel
theorem dL_law_275 : decode cL_law 275 = .ok (.iload_n 3, 1) := by decide +kernel
theorem dL_law_276 : decode cL_law 276 = .ok (.iconst 3, 1) := by decide +kernel
theorem dL_law_277 : decode cL_law 277 = .ok (.iadd, 1) := by decide +kernel
theorem dL_law_278 : decode cL_law 278 = .ok (.iaload, 1) := by decide +kernel
theorem dL_law_279 : decode cL_law 279 = .ok (.invokevirtual 35, 3) := by decide +kernel
theorem dL_law_282 : decode cL_law 282 = .ok (.aload_n 2, 1) := by decide +kernel
theorem dL_law_283 : decode cL_law 283 = .ok (.aload_n 0, 1) := by decide +kernel
theorem dL_law_284 : decode cL_law 284 = .ok (.iload_n 3, 1) := by decide +kernel
theorem dL_law_285 : decode cL_law 285 = .ok (.iconst 1, 1) := by decide +kernel
theorem dL_law_286 : decode cL_law 286 = .ok (.iadd, 1) := by decide +kernel
theorem dL_law_287 : decode cL_law 287 = .ok (.iaload, 1) := by decide +kernel
theorem dL_law_288 : decode cL_law 288 = .ok (.aload_n 0, 1) := by decide +kernel
theorem dL_law_289 : decode cL_law 289 = .ok (.iload_n 3, 1) := by decide +kernel
theorem dL_law_290 : decode cL_law 290 = .ok (.iconst 2, 1) := by decide +kernel
theorem dL_law_291 : decode cL_law 291 = .ok (.iadd, 1) := by decide +kernel
theorem dL_law_292 : decode cL_law 292 = .ok (.iaload, 1) := by decide +kernel
theorem dL_law_293 : decode cL_law 293 = .ok (.aload_n 0, 1) := by decide +kernel
theorem dL_law_294 : decode cL_law 294 = .ok (.iload_n 3, 1) := by decide +kernel
theorem dL_law_295 : decode cL_law 295 = .ok (.iconst 3, 1) := by decide +kernel
theorem dL_law_296 : decode cL_law 296 = .ok (.iadd, 1) := by decide +kernel
theorem dL_law_297 : decode cL_law 297 = .ok (.iaload, 1) := by decide +kernel
theorem dL_law_298 : decode cL_law 298 = .ok (.invokevirtual 39, 3) := by decide +kernel
theorem dL_law_301 : decode cL_law 301 = .ok (.if_icmp .eq 777, 3) := by decide +kernel
theorem dL_law_304 : decode cL_law 304 = .ok (.iconst 0, 1) := by decide +kernel
theorem dL_law_305 : decode cL_law 305 = .ok (.ireturn, 1) := by decide +kernel
theorem dL_law_306 : decode cL_law 306 = .ok (.aload_n 1, 1) := by decide +kernel
theorem dL_law_307 : decode cL_law 307 = .ok (.aload_n 0, 1) := by decide +kernel
theorem dL_law_308 : decode cL_law 308 = .ok (.iload_n 3, 1) := by decide +kernel
theorem dL_law_309 : decode cL_law 309 = .ok (.iconst 1, 1) := by decide +kernel
theorem dL_law_310 : decode cL_law 310 = .ok (.iadd, 1) := by decide +kernel
theorem dL_law_311 : decode cL_law 311 = .ok (.iaload, 1) := by decide +kernel
theorem dL_law_312 : decode cL_law 312 = .ok (.invokevirtual 40, 3) := by decide +kernel
theorem dL_law_315 : decode cL_law 315 = .ok (.aload_n 2, 1) := by decide +kernel
theorem dL_law_316 : decode cL_law 316 = .ok (.aload_n 0, 1) := by decide +kernel
theorem dL_law_317 : decode cL_law 317 = .ok (.iload_n 3, 1) := by decide +kernel
theorem dL_law_318 : decode cL_law 318 = .ok (.iconst 1, 1) := by decide +kernel
theorem dL_law_319 : decode cL_law 319 = .ok (.iadd, 1) := by decide +kernel
theorem dL_law_320 : decode cL_law 320 = .ok (.iaload, 1) := by decide +kernel
theorem dL_law_321 : decode cL_law 321 = .ok (.invokevirtual 43, 3) := by decide +kernel
theorem dL_law_324 : decode cL_law 324 = .ok (.if_icmp .eq 754, 3) := by decide +kernel
theorem dL_law_327 : decode cL_law 327 = .ok (.iconst 0, 1) := by decide +kernel
theorem dL_law_328 : decode cL_law 328 = .ok (.ireturn, 1) := by decide +kernel
theorem dL_law_329 : decode cL_law 329 = .ok (.aload_n 1, 1) := by decide +kernel
theorem dL_law_330 : decode cL_law 330 = .ok (.aload_n 0, 1) := by decide +kernel
theorem dL_law_331 : decode cL_law 331 = .ok (.iload_n 3, 1) := by decide +kernel
theorem dL_law_332 : decode cL_law 332 = .ok (.iconst 1, 1) := by decide +kernel
theorem dL_law_333 : decode cL_law 333 = .ok (.iadd, 1) := by decide +kernel
theorem dL_law_334 : decode cL_law 334 = .ok (.iaload, 1) := by decide +kernel
theorem dL_law_335 : decode cL_law 335 = .ok (.invokevirtual 44, 3) := by decide +kernel
theorem dL_law_338 : decode cL_law 338 = .ok (.aload_n 2, 1) := by decide +kernel
theorem dL_law_339 : decode cL_law 339 = .ok (.aload_n 0, 1) := by decide +kernel
theorem dL_law_340 : decode cL_law 340 = .ok (.iload_n 3, 1) := by decide +kernel
theorem dL_law_341 : decode cL_law 341 = .ok (.iconst 1, 1) := by decide +kernel
theorem dL_law_342 : decode cL_law 342 = .ok (.iadd, 1) := by decide +kernel
theorem dL_law_343 : decode cL_law 343 = .ok (.iaload, 1) := by decide +kernel
theorem dL_law_344 : decode cL_law 344 = .ok (.invokevirtual 47, 3) := by decide +kernel
theorem dL_law_347 : decode cL_law 347 = .ok (.if_icmp .eq 731, 3) := by decide +kernel
theorem dL_law_350 : decode cL_law 350 = .ok (.iconst 0, 1) := by decide +kernel
theorem dL_law_351 : decode cL_law 351 = .ok (.ireturn, 1) := by decide +kernel
theorem dL_law_352 : decode cL_law 352 = .ok (.aload_n 1, 1) := by decide +kernel
theorem dL_law_353 : decode cL_law 353 = .ok (.aload_n 0, 1) := by decide +kernel
theorem dL_law_354 : decode cL_law 354 = .ok (.iload_n 3, 1) := by decide +kernel
theorem dL_law_355 : decode cL_law 355 = .ok (.iconst 1, 1) := by decide +kernel
theorem dL_law_356 : decode cL_law 356 = .ok (.iadd, 1) := by decide +kernel
theorem dL_law_357 : decode cL_law 357 = .ok (.iaload, 1) := by decide +kernel
theorem dL_law_358 : decode cL_law 358 = .ok (.invokevirtual 48, 3) := by decide +kernel
theorem dL_law_361 : decode cL_law 361 = .ok (.aload_n 2, 1) := by decide +kernel
theorem dL_law_362 : decode cL_law 362 = .ok (.aload_n 0, 1) := by decide +kernel
theorem dL_law_363 : decode cL_law 363 = .ok (.iload_n 3, 1) := by decide +kernel
theorem dL_law_364 : decode cL_law 364 = .ok (.iconst 1, 1) := by decide +kernel
theorem dL_law_365 : decode cL_law 365 = .ok (.iadd, 1) := by decide +kernel
theorem dL_law_366 : decode cL_law 366 = .ok (.iaload, 1) := by decide +kernel
theorem dL_law_367 : decode cL_law 367 = .ok (.invokevirtual 51, 3) := by decide +kernel
theorem dL_law_370 : decode cL_law 370 = .ok (.if_icmp .eq 708, 3) := by decide +kernel
theorem dL_law_373 : decode cL_law 373 = .ok (.iconst 0, 1) := by decide +kernel
theorem dL_law_374 : decode cL_law 374 = .ok (.ireturn, 1) := by decide +kernel
theorem dL_law_375 : decode cL_law 375 = .ok (.aload_n 1, 1) := by decide +kernel
theorem dL_law_376 : decode cL_law 376 = .ok (.aload_n 0, 1) := by decide +kernel
theorem dL_law_377 : decode cL_law 377 = .ok (.iload_n 3, 1) := by decide +kernel
theorem dL_law_378 : decode cL_law 378 = .ok (.iconst 1, 1) := by decide +kernel
theorem dL_law_379 : decode cL_law 379 = .ok (.iadd, 1) := by decide +kernel
theorem dL_law_380 : decode cL_law 380 = .ok (.iaload, 1) := by decide +kernel
theorem dL_law_381 : decode cL_law 381 = .ok (.invokevirtual 52, 3) := by decide +kernel
theorem dL_law_384 : decode cL_law 384 = .ok (.aload_n 2, 1) := by decide +kernel
theorem dL_law_385 : decode cL_law 385 = .ok (.aload_n 0, 1) := by decide +kernel
theorem dL_law_386 : decode cL_law 386 = .ok (.iload_n 3, 1) := by decide +kernel
theorem dL_law_387 : decode cL_law 387 = .ok (.iconst 1, 1) := by decide +kernel
theorem dL_law_388 : decode cL_law 388 = .ok (.iadd, 1) := by decide +kernel
theorem dL_law_389 : decode cL_law 389 = .ok (.iaload, 1) := by decide +kernel
theorem dL_law_390 : decode cL_law 390 = .ok (.invokevirtual 55, 3) := by decide +kernel
theorem dL_law_393 : decode cL_law 393 = .ok (.if_icmp .eq 685, 3) := by decide +kernel
theorem dL_law_396 : decode cL_law 396 = .ok (.iconst 0, 1) := by decide +kernel
theorem dL_law_397 : decode cL_law 397 = .ok (.ireturn, 1) := by decide +kernel
theorem dL_law_398 : decode cL_law 398 = .ok (.aload_n 1, 1) := by decide +kernel
theorem dL_law_399 : decode cL_law 399 = .ok (.aload_n 0, 1) := by decide +kernel
theorem dL_law_400 : decode cL_law 400 = .ok (.iload_n 3, 1) := by decide +kernel
theorem dL_law_401 : decode cL_law 401 = .ok (.iconst 1, 1) := by decide +kernel
theorem dL_law_402 : decode cL_law 402 = .ok (.iadd, 1) := by decide +kernel
theorem dL_law_403 : decode cL_law 403 = .ok (.iaload, 1) := by decide +kernel
theorem dL_law_404 : decode cL_law 404 = .ok (.aload_n 0, 1) := by decide +kernel
theorem dL_law_405 : decode cL_law 405 = .ok (.iload_n 3, 1) := by decide +kernel
theorem dL_law_406 : decode cL_law 406 = .ok (.iconst 2, 1) := by decide +kernel
theorem dL_law_407 : decode cL_law 407 = .ok (.iadd, 1) := by decide +kernel
theorem dL_law_408 : decode cL_law 408 = .ok (.iaload, 1) := by decide +kernel
theorem dL_law_409 : decode cL_law 409 = .ok (.invokevirtual 56, 3) := by decide +kernel
theorem dL_law_412 : decode cL_law 412 = .ok (.aload_n 2, 1) := by decide +kernel
theorem dL_law_413 : decode cL_law 413 = .ok (.aload_n 0, 1) := by decide +kernel
theorem dL_law_414 : decode cL_law 414 = .ok (.iload_n 3, 1) := by decide +kernel
theorem dL_law_415 : decode cL_law 415 = .ok (.iconst 1, 1) := by decide +kernel
theorem dL_law_416 : decode cL_law 416 = .ok (.iadd, 1) := by decide +kernel
theorem dL_law_417 : decode cL_law 417 = .ok (.iaload, 1) := by decide +kernel
theorem dL_law_418 : decode cL_law 418 = .ok (.aload_n 0, 1) := by decide +kernel
theorem dL_law_419 : decode cL_law 419 = .ok (.iload_n 3, 1) := by decide +kernel
theorem dL_law_420 : decode cL_law 420 = .ok (.iconst 2, 1) := by decide +kernel
theorem dL_law_421 : decode cL_law 421 = .ok (.iadd, 1) := by decide +kernel
theorem dL_law_422 : decode cL_law 422 = .ok (.iaload, 1) := by decide +kernel
theorem dL_law_423 : decode cL_law 423 = .ok (.invokevirtual 60, 3) := by decide +kernel
theorem dL_law_426 : decode cL_law 426 = .ok (.if_icmp .eq 652, 3) := by decide +kernel
theorem dL_law_429 : decode cL_law 429 = .ok (.iconst 0, 1) := by decide +kernel
theorem dL_law_430 : decode cL_law 430 = .ok (.ireturn, 1) := by decide +kernel
theorem dL_law_431 : decode cL_law 431 = .ok (.aload_n 1, 1) := by decide +kernel
theorem dL_law_432 : decode cL_law 432 = .ok (.aload_n 0, 1) := by decide +kernel
theorem dL_law_433 : decode cL_law 433 = .ok (.iload_n 3, 1) := by decide +kernel
theorem dL_law_434 : decode cL_law 434 = .ok (.iconst 1, 1) := by decide +kernel
theorem dL_law_435 : decode cL_law 435 = .ok (.iadd, 1) := by decide +kernel
theorem dL_law_436 : decode cL_law 436 = .ok (.iaload, 1) := by decide +kernel
theorem dL_law_437 : decode cL_law 437 = .ok (.aload_n 0, 1) := by decide +kernel
theorem dL_law_438 : decode cL_law 438 = .ok (.iload_n 3, 1) := by decide +kernel
theorem dL_law_439 : decode cL_law 439 = .ok (.iconst 2, 1) := by decide +kernel
theorem dL_law_440 : decode cL_law 440 = .ok (.iadd, 1) := by decide +kernel
theorem dL_law_441 : decode cL_law 441 = .ok (.iaload, 1) := by decide +kernel
theorem dL_law_442 : decode cL_law 442 = .ok (.invokevirtual 61, 3) := by decide +kernel
theorem dL_law_445 : decode cL_law 445 = .ok (.aload_n 2, 1) := by decide +kernel
theorem dL_law_446 : decode cL_law 446 = .ok (.aload_n 0, 1) := by decide +kernel
theorem dL_law_447 : decode cL_law 447 = .ok (.iload_n 3, 1) := by decide +kernel
theorem dL_law_448 : decode cL_law 448 = .ok (.iconst 1, 1) := by decide +kernel
theorem dL_law_449 : decode cL_law 449 = .ok (.iadd, 1) := by decide +kernel
theorem dL_law_450 : decode cL_law 450 = .ok (.iaload, 1) := by decide +kernel
theorem dL_law_451 : decode cL_law 451 = .ok (.aload_n 0, 1) := by decide +kernel
theorem dL_law_452 : decode cL_law 452 = .ok (.iload_n 3, 1) := by decide +kernel
theorem dL_law_453 : decode cL_law 453 = .ok (.iconst 2, 1) := by decide +kernel
theorem dL_law_454 : decode cL_law 454 = .ok (.iadd, 1) := by decide +kernel
theorem dL_law_455 : decode cL_law 455 = .ok (.iaload, 1) := by decide +kernel
theorem dL_law_456 : decode cL_law 456 = .ok (.invokevirtual 64, 3) := by decide +kernel
theorem dL_law_459 : decode cL_law 459 = .ok (.if_icmp .eq 619, 3) := by decide +kernel
theorem dL_law_462 : decode cL_law 462 = .ok (.iconst 0, 1) := by decide +kernel
theorem dL_law_463 : decode cL_law 463 = .ok (.ireturn, 1) := by decide +kernel
theorem dL_law_464 : decode cL_law 464 = .ok (.aload_n 1, 1) := by decide +kernel
theorem dL_law_465 : decode cL_law 465 = .ok (.aload_n 0, 1) := by decide +kernel
theorem dL_law_466 : decode cL_law 466 = .ok (.iload_n 3, 1) := by decide +kernel
theorem dL_law_467 : decode cL_law 467 = .ok (.iconst 1, 1) := by decide +kernel
theorem dL_law_468 : decode cL_law 468 = .ok (.iadd, 1) := by decide +kernel
theorem dL_law_469 : decode cL_law 469 = .ok (.iaload, 1) := by decide +kernel
theorem dL_law_470 : decode cL_law 470 = .ok (.aload_n 0, 1) := by decide +kernel
theorem dL_law_471 : decode cL_law 471 = .ok (.iload_n 3, 1) := by decide +kernel
theorem dL_law_472 : decode cL_law 472 = .ok (.iconst 2, 1) := by decide +kernel
theorem dL_law_473 : decode cL_law 473 = .ok (.iadd, 1) := by decide +kernel
theorem dL_law_474 : decode cL_law 474 = .ok (.iaload, 1) := by decide +kernel
theorem dL_law_475 : decode cL_law 475 = .ok (.invokevirtual 65, 3) := by decide +kernel
theorem dL_law_478 : decode cL_law 478 = .ok (.aload_n 2, 1) := by decide +kernel
theorem dL_law_479 : decode cL_law 479 = .ok (.aload_n 0, 1) := by decide +kernel
theorem dL_law_480 : decode cL_law 480 = .ok (.iload_n 3, 1) := by decide +kernel
theorem dL_law_481 : decode cL_law 481 = .ok (.iconst 1, 1) := by decide +kernel
theorem dL_law_482 : decode cL_law 482 = .ok (.iadd, 1) := by decide +kernel
theorem dL_law_483 : decode cL_law 483 = .ok (.iaload, 1) := by decide +kernel
theorem dL_law_484 : decode cL_law 484 = .ok (.aload_n 0, 1) := by decide +kernel
theorem dL_law_485 : decode cL_law 485 = .ok (.iload_n 3, 1) := by decide +kernel
theorem dL_law_486 : decode cL_law 486 = .ok (.iconst 2, 1) := by decide +kernel
theorem dL_law_487 : decode cL_law 487 = .ok (.iadd, 1) := by decide +kernel
theorem dL_law_488 : decode cL_law 488 = .ok (.iaload, 1) := by decide +kernel
theorem dL_law_489 : decode cL_law 489 = .ok (.invokevirtual 68, 3) := by decide +kernel
theorem dL_law_492 : decode cL_law 492 = .ok (.if_icmp .eq 586, 3) := by decide +kernel
theorem dL_law_495 : decode cL_law 495 = .ok (.iconst 0, 1) := by decide +kernel
theorem dL_law_496 : decode cL_law 496 = .ok (.ireturn, 1) := by decide +kernel
theorem dL_law_497 : decode cL_law 497 = .ok (.aload_n 1, 1) := by decide +kernel
theorem dL_law_498 : decode cL_law 498 = .ok (.aload_n 0, 1) := by decide +kernel
theorem dL_law_499 : decode cL_law 499 = .ok (.iload_n 3, 1) := by decide +kernel
theorem dL_law_500 : decode cL_law 500 = .ok (.iconst 1, 1) := by decide +kernel
theorem dL_law_501 : decode cL_law 501 = .ok (.iadd, 1) := by decide +kernel
theorem dL_law_502 : decode cL_law 502 = .ok (.iaload, 1) := by decide +kernel
theorem dL_law_503 : decode cL_law 503 = .ok (.aload_n 0, 1) := by decide +kernel
theorem dL_law_504 : decode cL_law 504 = .ok (.iload_n 3, 1) := by decide +kernel
theorem dL_law_505 : decode cL_law 505 = .ok (.iconst 2, 1) := by decide +kernel
theorem dL_law_506 : decode cL_law 506 = .ok (.iadd, 1) := by decide +kernel
theorem dL_law_507 : decode cL_law 507 = .ok (.iaload, 1) := by decide +kernel
theorem dL_law_508 : decode cL_law 508 = .ok (.invokevirtual 69, 3) := by decide +kernel
theorem dL_law_511 : decode cL_law 511 = .ok (.aload_n 2, 1) := by decide +kernel
theorem dL_law_512 : decode cL_law 512 = .ok (.aload_n 0, 1) := by decide +kernel
theorem dL_law_513 : decode cL_law 513 = .ok (.iload_n 3, 1) := by decide +kernel
theorem dL_law_514 : decode cL_law 514 = .ok (.iconst 1, 1) := by decide +kernel
theorem dL_law_515 : decode cL_law 515 = .ok (.iadd, 1) := by decide +kernel
theorem dL_law_516 : decode cL_law 516 = .ok (.iaload, 1) := by decide +kernel
theorem dL_law_517 : decode cL_law 517 = .ok (.aload_n 0, 1) := by decide +kernel
theorem dL_law_518 : decode cL_law 518 = .ok (.iload_n 3, 1) := by decide +kernel
theorem dL_law_519 : decode cL_law 519 = .ok (.iconst 2, 1) := by decide +kernel
theorem dL_law_520 : decode cL_law 520 = .ok (.iadd, 1) := by decide +kernel
theorem dL_law_521 : decode cL_law 521 = .ok (.iaload, 1) := by decide +kernel
theorem dL_law_522 : decode cL_law 522 = .ok (.invokevirtual 72, 3) := by decide +kernel
theorem dL_law_525 : decode cL_law 525 = .ok (.if_icmp .eq 553, 3) := by decide +kernel
theorem dL_law_528 : decode cL_law 528 = .ok (.iconst 0, 1) := by decide +kernel
theorem dL_law_529 : decode cL_law 529 = .ok (.ireturn, 1) := by decide +kernel
theorem dL_law_530 : decode cL_law 530 = .ok (.aload_n 1, 1) := by decide +kernel
theorem dL_law_531 : decode cL_law 531 = .ok (.aload_n 0, 1) := by decide +kernel
theorem dL_law_532 : decode cL_law 532 = .ok (.iload_n 3, 1) := by decide +kernel
theorem dL_law_533 : decode cL_law 533 = .ok (.iconst 1, 1) := by decide +kernel
theorem dL_law_534 : decode cL_law 534 = .ok (.iadd, 1) := by decide +kernel
theorem dL_law_535 : decode cL_law 535 = .ok (.iaload, 1) := by decide +kernel
theorem dL_law_536 : decode cL_law 536 = .ok (.aload_n 0, 1) := by decide +kernel
theorem dL_law_537 : decode cL_law 537 = .ok (.iload_n 3, 1) := by decide +kernel
theorem dL_law_538 : decode cL_law 538 = .ok (.iconst 2, 1) := by decide +kernel
theorem dL_law_539 : decode cL_law 539 = .ok (.iadd, 1) := by decide +kernel
theorem dL_law_540 : decode cL_law 540 = .ok (.iaload, 1) := by decide +kernel
theorem dL_law_541 : decode cL_law 541 = .ok (.aload_n 0, 1) := by decide +kernel
theorem dL_law_542 : decode cL_law 542 = .ok (.iload_n 3, 1) := by decide +kernel
theorem dL_law_543 : decode cL_law 543 = .ok (.iconst 3, 1) := by decide +kernel
theorem dL_law_544 : decode cL_law 544 = .ok (.iadd, 1) := by decide +kernel
theorem dL_law_545 : decode cL_law 545 = .ok (.iaload, 1) := by decide +kernel
theorem dL_law_546 : decode cL_law 546 = .ok (.aload_n 0, 1) := by decide +kernel
theorem dL_law_547 : decode cL_law 547 = .ok (.iload_n 3, 1) := by decide +kernel
theorem dL_law_548 : decode cL_law 548 = .ok (.iconst 4, 1) := by decide +kernel
theorem dL_law_549 : decode cL_law 549 = .ok (.iadd, 1) := by decide +kernel
theorem dL_law_550 : decode cL_law 550 = .ok (.iaload, 1) := by decide +kernel
theorem dL_law_551 : decode cL_law 551 = .ok (.invokevirtual 73, 3) := by decide +kernel
theorem dL_law_554 : decode cL_law 554 = .ok (.aload_n 2, 1) := by decide +kernel
theorem dL_law_555 : decode cL_law 555 = .ok (.aload_n 0, 1) := by decide +kernel
theorem dL_law_556 : decode cL_law 556 = .ok (.iload_n 3, 1) := by decide +kernel
theorem dL_law_557 : decode cL_law 557 = .ok (.iconst 1, 1) := by decide +kernel
theorem dL_law_558 : decode cL_law 558 = .ok (.iadd, 1) := by decide +kernel
theorem dL_law_559 : decode cL_law 559 = .ok (.iaload, 1) := by decide +kernel
theorem dL_law_560 : decode cL_law 560 = .ok (.aload_n 0, 1) := by decide +kernel
theorem dL_law_561 : decode cL_law 561 = .ok (.iload_n 3, 1) := by decide +kernel
theorem dL_law_562 : decode cL_law 562 = .ok (.iconst 2, 1) := by decide +kernel
theorem dL_law_563 : decode cL_law 563 = .ok (.iadd, 1) := by decide +kernel
theorem dL_law_564 : decode cL_law 564 = .ok (.iaload, 1) := by decide +kernel
theorem dL_law_565 : decode cL_law 565 = .ok (.aload_n 0, 1) := by decide +kernel
theorem dL_law_566 : decode cL_law 566 = .ok (.iload_n 3, 1) := by decide +kernel
theorem dL_law_567 : decode cL_law 567 = .ok (.iconst 3, 1) := by decide +kernel
theorem dL_law_568 : decode cL_law 568 = .ok (.iadd, 1) := by decide +kernel
theorem dL_law_569 : decode cL_law 569 = .ok (.iaload, 1) := by decide +kernel
theorem dL_law_570 : decode cL_law 570 = .ok (.aload_n 0, 1) := by decide +kernel
theorem dL_law_571 : decode cL_law 571 = .ok (.iload_n 3, 1) := by decide +kernel
theorem dL_law_572 : decode cL_law 572 = .ok (.iconst 4, 1) := by decide +kernel
theorem dL_law_573 : decode cL_law 573 = .ok (.iadd, 1) := by decide +kernel
theorem dL_law_574 : decode cL_law 574 = .ok (.iaload, 1) := by decide +kernel
theorem dL_law_575 : decode cL_law 575 = .ok (.invokevirtual 77, 3) := by decide +kernel
theorem dL_law_578 : decode cL_law 578 = .ok (.if_icmp .eq 500, 3) := by decide +kernel
theorem dL_law_581 : decode cL_law 581 = .ok (.iconst 0, 1) := by decide +kernel
theorem dL_law_582 : decode cL_law 582 = .ok (.ireturn, 1) := by decide +kernel
theorem dL_law_583 : decode cL_law 583 = .ok (.aload_n 1, 1) := by decide +kernel
theorem dL_law_584 : decode cL_law 584 = .ok (.aload_n 0, 1) := by decide +kernel
theorem dL_law_585 : decode cL_law 585 = .ok (.iload_n 3, 1) := by decide +kernel
theorem dL_law_586 : decode cL_law 586 = .ok (.iconst 1, 1) := by decide +kernel
theorem dL_law_587 : decode cL_law 587 = .ok (.iadd, 1) := by decide +kernel
theorem dL_law_588 : decode cL_law 588 = .ok (.iaload, 1) := by decide +kernel
theorem dL_law_589 : decode cL_law 589 = .ok (.invokevirtual 78, 3) := by decide +kernel
theorem dL_law_592 : decode cL_law 592 = .ok (.aload_n 2, 1) := by decide +kernel
theorem dL_law_593 : decode cL_law 593 = .ok (.aload_n 0, 1) := by decide +kernel
theorem dL_law_594 : decode cL_law 594 = .ok (.iload_n 3, 1) := by decide +kernel
theorem dL_law_595 : decode cL_law 595 = .ok (.iconst 1, 1) := by decide +kernel
theorem dL_law_596 : decode cL_law 596 = .ok (.iadd, 1) := by decide +kernel
theorem dL_law_597 : decode cL_law 597 = .ok (.iaload, 1) := by decide +kernel
theorem dL_law_598 : decode cL_law 598 = .ok (.invokevirtual 81, 3) := by decide +kernel
theorem dL_law_601 : decode cL_law 601 = .ok (.if_icmp .eq 477, 3) := by decide +kernel
theorem dL_law_604 : decode cL_law 604 = .ok (.iconst 0, 1) := by decide +kernel
theorem dL_law_605 : decode cL_law 605 = .ok (.ireturn, 1) := by decide +kernel
theorem dL_law_606 : decode cL_law 606 = .ok (.aload_n 1, 1) := by decide +kernel
theorem dL_law_607 : decode cL_law 607 = .ok (.aload_n 0, 1) := by decide +kernel
theorem dL_law_608 : decode cL_law 608 = .ok (.iload_n 3, 1) := by decide +kernel
theorem dL_law_609 : decode cL_law 609 = .ok (.iconst 1, 1) := by decide +kernel
theorem dL_law_610 : decode cL_law 610 = .ok (.iadd, 1) := by decide +kernel
theorem dL_law_611 : decode cL_law 611 = .ok (.iaload, 1) := by decide +kernel
theorem dL_law_612 : decode cL_law 612 = .ok (.aload_n 0, 1) := by decide +kernel
theorem dL_law_613 : decode cL_law 613 = .ok (.iload_n 3, 1) := by decide +kernel
theorem dL_law_614 : decode cL_law 614 = .ok (.iconst 2, 1) := by decide +kernel
theorem dL_law_615 : decode cL_law 615 = .ok (.iadd, 1) := by decide +kernel
theorem dL_law_616 : decode cL_law 616 = .ok (.iaload, 1) := by decide +kernel
theorem dL_law_617 : decode cL_law 617 = .ok (.invokevirtual 82, 3) := by decide +kernel
theorem dL_law_620 : decode cL_law 620 = .ok (.aload_n 2, 1) := by decide +kernel
theorem dL_law_621 : decode cL_law 621 = .ok (.aload_n 0, 1) := by decide +kernel
theorem dL_law_622 : decode cL_law 622 = .ok (.iload_n 3, 1) := by decide +kernel
theorem dL_law_623 : decode cL_law 623 = .ok (.iconst 1, 1) := by decide +kernel
theorem dL_law_624 : decode cL_law 624 = .ok (.iadd, 1) := by decide +kernel
theorem dL_law_625 : decode cL_law 625 = .ok (.iaload, 1) := by decide +kernel
theorem dL_law_626 : decode cL_law 626 = .ok (.aload_n 0, 1) := by decide +kernel
theorem dL_law_627 : decode cL_law 627 = .ok (.iload_n 3, 1) := by decide +kernel
theorem dL_law_628 : decode cL_law 628 = .ok (.iconst 2, 1) := by decide +kernel
theorem dL_law_629 : decode cL_law 629 = .ok (.iadd, 1) := by decide +kernel
theorem dL_law_630 : decode cL_law 630 = .ok (.iaload, 1) := by decide +kernel
theorem dL_law_631 : decode cL_law 631 = .ok (.invokevirtual 85, 3) := by decide +kernel
theorem dL_law_634 : decode cL_law 634 = .ok (.if_icmp .eq 444, 3) := by decide +kernel
theorem dL_law_637 : decode cL_law 637 = .ok (.iconst 0, 1) := by decide +kernel
theorem dL_law_638 : decode cL_law 638 = .ok (.ireturn, 1) := by decide +kernel
theorem dL_law_639 : decode cL_law 639 = .ok (.aload_n 1, 1) := by decide +kernel
theorem dL_law_640 : decode cL_law 640 = .ok (.aload_n 0, 1) := by decide +kernel
theorem dL_law_641 : decode cL_law 641 = .ok (.iload_n 3, 1) := by decide +kernel
theorem dL_law_642 : decode cL_law 642 = .ok (.iconst 1, 1) := by decide +kernel
theorem dL_law_643 : decode cL_law 643 = .ok (.iadd, 1) := by decide +kernel
theorem dL_law_644 : decode cL_law 644 = .ok (.iaload, 1) := by decide +kernel
theorem dL_law_645 : decode cL_law 645 = .ok (.aload_n 0, 1) := by decide +kernel
theorem dL_law_646 : decode cL_law 646 = .ok (.iload_n 3, 1) := by decide +kernel
theorem dL_law_647 : decode cL_law 647 = .ok (.iconst 2, 1) := by decide +kernel
theorem dL_law_648 : decode cL_law 648 = .ok (.iadd, 1) := by decide +kernel
theorem dL_law_649 : decode cL_law 649 = .ok (.iaload, 1) := by decide +kernel
theorem dL_law_650 : decode cL_law 650 = .ok (.aload_n 0, 1) := by decide +kernel
theorem dL_law_651 : decode cL_law 651 = .ok (.iload_n 3, 1) := by decide +kernel
theorem dL_law_652 : decode cL_law 652 = .ok (.iconst 3, 1) := by decide +kernel
theorem dL_law_653 : decode cL_law 653 = .ok (.iadd, 1) := by decide +kernel
theorem dL_law_654 : decode cL_law 654 = .ok (.iaload, 1) := by decide +kernel
theorem dL_law_655 : decode cL_law 655 = .ok (.aload_n 0, 1) := by decide +kernel
theorem dL_law_656 : decode cL_law 656 = .ok (.iload_n 3, 1) := by decide +kernel
theorem dL_law_657 : decode cL_law 657 = .ok (.iconst 4, 1) := by decide +kernel
theorem dL_law_658 : decode cL_law 658 = .ok (.iadd, 1) := by decide +kernel
theorem dL_law_659 : decode cL_law 659 = .ok (.iaload, 1) := by decide +kernel
theorem dL_law_660 : decode cL_law 660 = .ok (.invokevirtual 86, 3) := by decide +kernel
theorem dL_law_663 : decode cL_law 663 = .ok (.aload_n 2, 1) := by decide +kernel
theorem dL_law_664 : decode cL_law 664 = .ok (.aload_n 0, 1) := by decide +kernel
theorem dL_law_665 : decode cL_law 665 = .ok (.iload_n 3, 1) := by decide +kernel
theorem dL_law_666 : decode cL_law 666 = .ok (.iconst 1, 1) := by decide +kernel
theorem dL_law_667 : decode cL_law 667 = .ok (.iadd, 1) := by decide +kernel
theorem dL_law_668 : decode cL_law 668 = .ok (.iaload, 1) := by decide +kernel
theorem dL_law_669 : decode cL_law 669 = .ok (.aload_n 0, 1) := by decide +kernel
theorem dL_law_670 : decode cL_law 670 = .ok (.iload_n 3, 1) := by decide +kernel
theorem dL_law_671 : decode cL_law 671 = .ok (.iconst 2, 1) := by decide +kernel
theorem dL_law_672 : decode cL_law 672 = .ok (.iadd, 1) := by decide +kernel
theorem dL_law_673 : decode cL_law 673 = .ok (.iaload, 1) := by decide +kernel
theorem dL_law_674 : decode cL_law 674 = .ok (.aload_n 0, 1) := by decide +kernel
theorem dL_law_675 : decode cL_law 675 = .ok (.iload_n 3, 1) := by decide +kernel
theorem dL_law_676 : decode cL_law 676 = .ok (.iconst 3, 1) := by decide +kernel
theorem dL_law_677 : decode cL_law 677 = .ok (.iadd, 1) := by decide +kernel
theorem dL_law_678 : decode cL_law 678 = .ok (.iaload, 1) := by decide +kernel
theorem dL_law_679 : decode cL_law 679 = .ok (.aload_n 0, 1) := by decide +kernel
theorem dL_law_680 : decode cL_law 680 = .ok (.iload_n 3, 1) := by decide +kernel
theorem dL_law_681 : decode cL_law 681 = .ok (.iconst 4, 1) := by decide +kernel
theorem dL_law_682 : decode cL_law 682 = .ok (.iadd, 1) := by decide +kernel
theorem dL_law_683 : decode cL_law 683 = .ok (.iaload, 1) := by decide +kernel
theorem dL_law_684 : decode cL_law 684 = .ok (.invokevirtual 89, 3) := by decide +kernel
theorem dL_law_687 : decode cL_law 687 = .ok (.if_icmp .eq 391, 3) := by decide +kernel
theorem dL_law_690 : decode cL_law 690 = .ok (.iconst 0, 1) := by decide +kernel
theorem dL_law_691 : decode cL_law 691 = .ok (.ireturn, 1) := by decide +kernel
theorem dL_law_692 : decode cL_law 692 = .ok (.aload_n 1, 1) := by decide +kernel
theorem dL_law_693 : decode cL_law 693 = .ok (.aload_n 0, 1) := by decide +kernel
theorem dL_law_694 : decode cL_law 694 = .ok (.iload_n 3, 1) := by decide +kernel
theorem dL_law_695 : decode cL_law 695 = .ok (.iconst 1, 1) := by decide +kernel
theorem dL_law_696 : decode cL_law 696 = .ok (.iadd, 1) := by decide +kernel
theorem dL_law_697 : decode cL_law 697 = .ok (.iaload, 1) := by decide +kernel
theorem dL_law_698 : decode cL_law 698 = .ok (.aload_n 0, 1) := by decide +kernel
theorem dL_law_699 : decode cL_law 699 = .ok (.iload_n 3, 1) := by decide +kernel
theorem dL_law_700 : decode cL_law 700 = .ok (.iconst 2, 1) := by decide +kernel
theorem dL_law_701 : decode cL_law 701 = .ok (.iadd, 1) := by decide +kernel
theorem dL_law_702 : decode cL_law 702 = .ok (.iaload, 1) := by decide +kernel
theorem dL_law_703 : decode cL_law 703 = .ok (.aload_n 0, 1) := by decide +kernel
theorem dL_law_704 : decode cL_law 704 = .ok (.iload_n 3, 1) := by decide +kernel
theorem dL_law_705 : decode cL_law 705 = .ok (.iconst 3, 1) := by decide +kernel
theorem dL_law_706 : decode cL_law 706 = .ok (.iadd, 1) := by decide +kernel
theorem dL_law_707 : decode cL_law 707 = .ok (.iaload, 1) := by decide +kernel
theorem dL_law_708 : decode cL_law 708 = .ok (.invokevirtual 90, 3) := by decide +kernel
theorem dL_law_711 : decode cL_law 711 = .ok (.aload_n 2, 1) := by decide +kernel
theorem dL_law_712 : decode cL_law 712 = .ok (.aload_n 0, 1) := by decide +kernel
theorem dL_law_713 : decode cL_law 713 = .ok (.iload_n 3, 1) := by decide +kernel
theorem dL_law_714 : decode cL_law 714 = .ok (.iconst 1, 1) := by decide +kernel
theorem dL_law_715 : decode cL_law 715 = .ok (.iadd, 1) := by decide +kernel
theorem dL_law_716 : decode cL_law 716 = .ok (.iaload, 1) := by decide +kernel
theorem dL_law_717 : decode cL_law 717 = .ok (.aload_n 0, 1) := by decide +kernel
theorem dL_law_718 : decode cL_law 718 = .ok (.iload_n 3, 1) := by decide +kernel
theorem dL_law_719 : decode cL_law 719 = .ok (.iconst 2, 1) := by decide +kernel
theorem dL_law_720 : decode cL_law 720 = .ok (.iadd, 1) := by decide +kernel
theorem dL_law_721 : decode cL_law 721 = .ok (.iaload, 1) := by decide +kernel
theorem dL_law_722 : decode cL_law 722 = .ok (.aload_n 0, 1) := by decide +kernel
theorem dL_law_723 : decode cL_law 723 = .ok (.iload_n 3, 1) := by decide +kernel
theorem dL_law_724 : decode cL_law 724 = .ok (.iconst 3, 1) := by decide +kernel
theorem dL_law_725 : decode cL_law 725 = .ok (.iadd, 1) := by decide +kernel
theorem dL_law_726 : decode cL_law 726 = .ok (.iaload, 1) := by decide +kernel
theorem dL_law_727 : decode cL_law 727 = .ok (.invokevirtual 93, 3) := by decide +kernel
theorem dL_law_730 : decode cL_law 730 = .ok (.if_icmp .eq 348, 3) := by decide +kernel
theorem dL_law_733 : decode cL_law 733 = .ok (.iconst 0, 1) := by decide +kernel
theorem dL_law_734 : decode cL_law 734 = .ok (.ireturn, 1) := by decide +kernel
theorem dL_law_735 : decode cL_law 735 = .ok (.aload_n 1, 1) := by decide +kernel
theorem dL_law_736 : decode cL_law 736 = .ok (.aload_n 0, 1) := by decide +kernel
theorem dL_law_737 : decode cL_law 737 = .ok (.iload_n 3, 1) := by decide +kernel
theorem dL_law_738 : decode cL_law 738 = .ok (.iconst 1, 1) := by decide +kernel
theorem dL_law_739 : decode cL_law 739 = .ok (.iadd, 1) := by decide +kernel
theorem dL_law_740 : decode cL_law 740 = .ok (.iaload, 1) := by decide +kernel
theorem dL_law_741 : decode cL_law 741 = .ok (.aload_n 0, 1) := by decide +kernel
theorem dL_law_742 : decode cL_law 742 = .ok (.iload_n 3, 1) := by decide +kernel
theorem dL_law_743 : decode cL_law 743 = .ok (.iconst 2, 1) := by decide +kernel
theorem dL_law_744 : decode cL_law 744 = .ok (.iadd, 1) := by decide +kernel
theorem dL_law_745 : decode cL_law 745 = .ok (.iaload, 1) := by decide +kernel
theorem dL_law_746 : decode cL_law 746 = .ok (.aload_n 0, 1) := by decide +kernel
theorem dL_law_747 : decode cL_law 747 = .ok (.iload_n 3, 1) := by decide +kernel
theorem dL_law_748 : decode cL_law 748 = .ok (.iconst 3, 1) := by decide +kernel
theorem dL_law_749 : decode cL_law 749 = .ok (.iadd, 1) := by decide +kernel
theorem dL_law_750 : decode cL_law 750 = .ok (.iaload, 1) := by decide +kernel
theorem dL_law_751 : decode cL_law 751 = .ok (.invokevirtual 94, 3) := by decide +kernel
theorem dL_law_754 : decode cL_law 754 = .ok (.aload_n 2, 1) := by decide +kernel
theorem dL_law_755 : decode cL_law 755 = .ok (.aload_n 0, 1) := by decide +kernel
theorem dL_law_756 : decode cL_law 756 = .ok (.iload_n 3, 1) := by decide +kernel
theorem dL_law_757 : decode cL_law 757 = .ok (.iconst 1, 1) := by decide +kernel
theorem dL_law_758 : decode cL_law 758 = .ok (.iadd, 1) := by decide +kernel
theorem dL_law_759 : decode cL_law 759 = .ok (.iaload, 1) := by decide +kernel
theorem dL_law_760 : decode cL_law 760 = .ok (.aload_n 0, 1) := by decide +kernel
theorem dL_law_761 : decode cL_law 761 = .ok (.iload_n 3, 1) := by decide +kernel
theorem dL_law_762 : decode cL_law 762 = .ok (.iconst 2, 1) := by decide +kernel
theorem dL_law_763 : decode cL_law 763 = .ok (.iadd, 1) := by decide +kernel
theorem dL_law_764 : decode cL_law 764 = .ok (.iaload, 1) := by decide +kernel
theorem dL_law_765 : decode cL_law 765 = .ok (.aload_n 0, 1) := by decide +kernel
theorem dL_law_766 : decode cL_law 766 = .ok (.iload_n 3, 1) := by decide +kernel
theorem dL_law_767 : decode cL_law 767 = .ok (.iconst 3, 1) := by decide +kernel
theorem dL_law_768 : decode cL_law 768 = .ok (.iadd, 1) := by decide +kernel
theorem dL_law_769 : decode cL_law 769 = .ok (.iaload, 1) := by decide +kernel
theorem dL_law_770 : decode cL_law 770 = .ok (.invokevirtual 97, 3) := by decide +kernel
theorem dL_law_773 : decode cL_law 773 = .ok (.if_icmp .eq 305, 3) := by decide +kernel
theorem dL_law_776 : decode cL_law 776 = .ok (.iconst 0, 1) := by decide +kernel
theorem dL_law_777 : decode cL_law 777 = .ok (.ireturn, 1) := by decide +kernel
theorem dL_law_778 : decode cL_law 778 = .ok (.aload_n 1, 1) := by decide +kernel
theorem dL_law_779 : decode cL_law 779 = .ok (.aload_n 0, 1) := by decide +kernel
theorem dL_law_780 : decode cL_law 780 = .ok (.iload_n 3, 1) := by decide +kernel
theorem dL_law_781 : decode cL_law 781 = .ok (.iconst 1, 1) := by decide +kernel
theorem dL_law_782 : decode cL_law 782 = .ok (.iadd, 1) := by decide +kernel
theorem dL_law_783 : decode cL_law 783 = .ok (.iaload, 1) := by decide +kernel
theorem dL_law_784 : decode cL_law 784 = .ok (.aload_n 0, 1) := by decide +kernel
theorem dL_law_785 : decode cL_law 785 = .ok (.iload_n 3, 1) := by decide +kernel
theorem dL_law_786 : decode cL_law 786 = .ok (.iconst 2, 1) := by decide +kernel
theorem dL_law_787 : decode cL_law 787 = .ok (.iadd, 1) := by decide +kernel
theorem dL_law_788 : decode cL_law 788 = .ok (.iaload, 1) := by decide +kernel
theorem dL_law_789 : decode cL_law 789 = .ok (.invokevirtual 98, 3) := by decide +kernel
theorem dL_law_792 : decode cL_law 792 = .ok (.aload_n 2, 1) := by decide +kernel
theorem dL_law_793 : decode cL_law 793 = .ok (.aload_n 0, 1) := by decide +kernel
theorem dL_law_794 : decode cL_law 794 = .ok (.iload_n 3, 1) := by decide +kernel
theorem dL_law_795 : decode cL_law 795 = .ok (.iconst 1, 1) := by decide +kernel
theorem dL_law_796 : decode cL_law 796 = .ok (.iadd, 1) := by decide +kernel
theorem dL_law_797 : decode cL_law 797 = .ok (.iaload, 1) := by decide +kernel
theorem dL_law_798 : decode cL_law 798 = .ok (.aload_n 0, 1) := by decide +kernel
theorem dL_law_799 : decode cL_law 799 = .ok (.iload_n 3, 1) := by decide +kernel
theorem dL_law_800 : decode cL_law 800 = .ok (.iconst 2, 1) := by decide +kernel
theorem dL_law_801 : decode cL_law 801 = .ok (.iadd, 1) := by decide +kernel
theorem dL_law_802 : decode cL_law 802 = .ok (.iaload, 1) := by decide +kernel
theorem dL_law_803 : decode cL_law 803 = .ok (.invokevirtual 101, 3) := by decide +kernel
theorem dL_law_806 : decode cL_law 806 = .ok (.if_icmp .eq 272, 3) := by decide +kernel
theorem dL_law_809 : decode cL_law 809 = .ok (.iconst 0, 1) := by decide +kernel
theorem dL_law_810 : decode cL_law 810 = .ok (.ireturn, 1) := by decide +kernel
theorem dL_law_811 : decode cL_law 811 = .ok (.aload_n 1, 1) := by decide +kernel
theorem dL_law_812 : decode cL_law 812 = .ok (.aload_n 0, 1) := by decide +kernel
theorem dL_law_813 : decode cL_law 813 = .ok (.iload_n 3, 1) := by decide +kernel
theorem dL_law_814 : decode cL_law 814 = .ok (.iconst 1, 1) := by decide +kernel
theorem dL_law_815 : decode cL_law 815 = .ok (.iadd, 1) := by decide +kernel
theorem dL_law_816 : decode cL_law 816 = .ok (.iaload, 1) := by decide +kernel
theorem dL_law_817 : decode cL_law 817 = .ok (.invokevirtual 102, 3) := by decide +kernel
theorem dL_law_820 : decode cL_law 820 = .ok (.aload_n 2, 1) := by decide +kernel
theorem dL_law_821 : decode cL_law 821 = .ok (.aload_n 0, 1) := by decide +kernel
theorem dL_law_822 : decode cL_law 822 = .ok (.iload_n 3, 1) := by decide +kernel
theorem dL_law_823 : decode cL_law 823 = .ok (.iconst 1, 1) := by decide +kernel
theorem dL_law_824 : decode cL_law 824 = .ok (.iadd, 1) := by decide +kernel
theorem dL_law_825 : decode cL_law 825 = .ok (.iaload, 1) := by decide +kernel
theorem dL_law_826 : decode cL_law 826 = .ok (.invokevirtual 105, 3) := by decide +kernel
theorem dL_law_829 : decode cL_law 829 = .ok (.if_icmp .eq 249, 3) := by decide +kernel
theorem dL_law_832 : decode cL_law 832 = .ok (.iconst 0, 1) := by decide +kernel
theorem dL_law_833 : decode cL_law 833 = .ok (.ireturn, 1) := by decide +kernel
theorem dL_law_834 : decode cL_law 834 = .ok (.aload_n 1, 1) := by decide +kernel
theorem dL_law_835 : decode cL_law 835 = .ok (.aload_n 0, 1) := by decide +kernel
theorem dL_law_836 : decode cL_law 836 = .ok (.iload_n 3, 1) := by decide +kernel
theorem dL_law_837 : decode cL_law 837 = .ok (.iconst 1, 1) := by decide +kernel
theorem dL_law_838 : decode cL_law 838 = .ok (.iadd, 1) := by decide +kernel
theorem dL_law_839 : decode cL_law 839 = .ok (.iaload, 1) := by decide +kernel
theorem dL_law_840 : decode cL_law 840 = .ok (.invokevirtual 106, 3) := by decide +kernel
theorem dL_law_843 : decode cL_law 843 = .ok (.aload_n 2, 1) := by decide +kernel
theorem dL_law_844 : decode cL_law 844 = .ok (.aload_n 0, 1) := by decide +kernel
theorem dL_law_845 : decode cL_law 845 = .ok (.iload_n 3, 1) := by decide +kernel
theorem dL_law_846 : decode cL_law 846 = .ok (.iconst 1, 1) := by decide +kernel
theorem dL_law_847 : decode cL_law 847 = .ok (.iadd, 1) := by decide +kernel
theorem dL_law_848 : decode cL_law 848 = .ok (.iaload, 1) := by decide +kernel
theorem dL_law_849 : decode cL_law 849 = .ok (.invokevirtual 109, 3) := by decide +kernel
theorem dL_law_852 : decode cL_law 852 = .ok (.if_icmp .eq 226, 3) := by decide +kernel
theorem dL_law_855 : decode cL_law 855 = .ok (.iconst 0, 1) := by decide +kernel
theorem dL_law_856 : decode cL_law 856 = .ok (.ireturn, 1) := by decide +kernel
theorem dL_law_857 : decode cL_law 857 = .ok (.aload_n 1, 1) := by decide +kernel
theorem dL_law_858 : decode cL_law 858 = .ok (.aload_n 0, 1) := by decide +kernel
theorem dL_law_859 : decode cL_law 859 = .ok (.iload_n 3, 1) := by decide +kernel
theorem dL_law_860 : decode cL_law 860 = .ok (.iconst 1, 1) := by decide +kernel
theorem dL_law_861 : decode cL_law 861 = .ok (.iadd, 1) := by decide +kernel
theorem dL_law_862 : decode cL_law 862 = .ok (.iaload, 1) := by decide +kernel
theorem dL_law_863 : decode cL_law 863 = .ok (.invokevirtual 110, 3) := by decide +kernel
theorem dL_law_866 : decode cL_law 866 = .ok (.aload_n 2, 1) := by decide +kernel
theorem dL_law_867 : decode cL_law 867 = .ok (.aload_n 0, 1) := by decide +kernel
theorem dL_law_868 : decode cL_law 868 = .ok (.iload_n 3, 1) := by decide +kernel
theorem dL_law_869 : decode cL_law 869 = .ok (.iconst 1, 1) := by decide +kernel
theorem dL_law_870 : decode cL_law 870 = .ok (.iadd, 1) := by decide +kernel
theorem dL_law_871 : decode cL_law 871 = .ok (.iaload, 1) := by decide +kernel
theorem dL_law_872 : decode cL_law 872 = .ok (.invokevirtual 113, 3) := by decide +kernel
theorem dL_law_875 : decode cL_law 875 = .ok (.if_icmp .eq 203, 3) := by decide +kernel
theorem dL_law_878 : decode cL_law 878 = .ok (.iconst 0, 1) := by decide +kernel
theorem dL_law_879 : decode cL_law 879 = .ok (.ireturn, 1) := by decide +kernel
theorem dL_law_880 : decode cL_law 880 = .ok (.aload_n 1, 1) := by decide +kernel
theorem dL_law_881 : decode cL_law 881 = .ok (.aload_n 0, 1) := by decide +kernel
theorem dL_law_882 : decode cL_law 882 = .ok (.iload_n 3, 1) := by decide +kernel
theorem dL_law_883 : decode cL_law 883 = .ok (.iconst 1, 1) := by decide +kernel
theorem dL_law_884 : decode cL_law 884 = .ok (.iadd, 1) := by decide +kernel
theorem dL_law_885 : decode cL_law 885 = .ok (.iaload, 1) := by decide +kernel
theorem dL_law_886 : decode cL_law 886 = .ok (.invokevirtual 114, 3) := by decide +kernel
theorem dL_law_889 : decode cL_law 889 = .ok (.aload_n 2, 1) := by decide +kernel
theorem dL_law_890 : decode cL_law 890 = .ok (.aload_n 0, 1) := by decide +kernel
theorem dL_law_891 : decode cL_law 891 = .ok (.iload_n 3, 1) := by decide +kernel
theorem dL_law_892 : decode cL_law 892 = .ok (.iconst 1, 1) := by decide +kernel
theorem dL_law_893 : decode cL_law 893 = .ok (.iadd, 1) := by decide +kernel
theorem dL_law_894 : decode cL_law 894 = .ok (.iaload, 1) := by decide +kernel
theorem dL_law_895 : decode cL_law 895 = .ok (.invokevirtual 117, 3) := by decide +kernel
theorem dL_law_898 : decode cL_law 898 = .ok (.if_icmp .eq 180, 3) := by decide +kernel
theorem dL_law_901 : decode cL_law 901 = .ok (.iconst 0, 1) := by decide +kernel
theorem dL_law_902 : decode cL_law 902 = .ok (.ireturn, 1) := by decide +kernel
theorem dL_law_903 : decode cL_law 903 = .ok (.aload_n 1, 1) := by decide +kernel
theorem dL_law_904 : decode cL_law 904 = .ok (.aload_n 0, 1) := by decide +kernel
theorem dL_law_905 : decode cL_law 905 = .ok (.iload_n 3, 1) := by decide +kernel
theorem dL_law_906 : decode cL_law 906 = .ok (.iconst 1, 1) := by decide +kernel
theorem dL_law_907 : decode cL_law 907 = .ok (.iadd, 1) := by decide +kernel
theorem dL_law_908 : decode cL_law 908 = .ok (.iaload, 1) := by decide +kernel
theorem dL_law_909 : decode cL_law 909 = .ok (.aload_n 0, 1) := by decide +kernel
theorem dL_law_910 : decode cL_law 910 = .ok (.iload_n 3, 1) := by decide +kernel
theorem dL_law_911 : decode cL_law 911 = .ok (.iconst 2, 1) := by decide +kernel
theorem dL_law_912 : decode cL_law 912 = .ok (.iadd, 1) := by decide +kernel
theorem dL_law_913 : decode cL_law 913 = .ok (.iaload, 1) := by decide +kernel
theorem dL_law_914 : decode cL_law 914 = .ok (.aload_n 0, 1) := by decide +kernel
theorem dL_law_915 : decode cL_law 915 = .ok (.iload_n 3, 1) := by decide +kernel
theorem dL_law_916 : decode cL_law 916 = .ok (.iconst 3, 1) := by decide +kernel
theorem dL_law_917 : decode cL_law 917 = .ok (.iadd, 1) := by decide +kernel
theorem dL_law_918 : decode cL_law 918 = .ok (.iaload, 1) := by decide +kernel
theorem dL_law_919 : decode cL_law 919 = .ok (.invokevirtual 118, 3) := by decide +kernel
theorem dL_law_922 : decode cL_law 922 = .ok (.aload_n 2, 1) := by decide +kernel
theorem dL_law_923 : decode cL_law 923 = .ok (.aload_n 0, 1) := by decide +kernel
theorem dL_law_924 : decode cL_law 924 = .ok (.iload_n 3, 1) := by decide +kernel
theorem dL_law_925 : decode cL_law 925 = .ok (.iconst 1, 1) := by decide +kernel
theorem dL_law_926 : decode cL_law 926 = .ok (.iadd, 1) := by decide +kernel
theorem dL_law_927 : decode cL_law 927 = .ok (.iaload, 1) := by decide +kernel
theorem dL_law_928 : decode cL_law 928 = .ok (.aload_n 0, 1) := by decide +kernel
theorem dL_law_929 : decode cL_law 929 = .ok (.iload_n 3, 1) := by decide +kernel
theorem dL_law_930 : decode cL_law 930 = .ok (.iconst 2, 1) := by decide +kernel
theorem dL_law_931 : decode cL_law 931 = .ok (.iadd, 1) := by decide +kernel
theorem dL_law_932 : decode cL_law 932 = .ok (.iaload, 1) := by decide +kernel
theorem dL_law_933 : decode cL_law 933 = .ok (.aload_n 0, 1) := by decide +kernel
theorem dL_law_934 : decode cL_law 934 = .ok (.iload_n 3, 1) := by decide +kernel
theorem dL_law_935 : decode cL_law 935 = .ok (.iconst 3, 1) := by decide +kernel
theorem dL_law_936 : decode cL_law 936 = .ok (.iadd, 1) := by decide +kernel
theorem dL_law_937 : decode cL_law 937 = .ok (.iaload, 1) := by decide +kernel
theorem dL_law_938 : decode cL_law 938 = .ok (.invokevirtual 121, 3) := by decide +kernel
theorem dL_law_941 : decode cL_law 941 = .ok (.if_icmp .eq 137, 3) := by decide +kernel
theorem dL_law_944 : decode cL_law 944 = .ok (.iconst 0, 1) := by decide +kernel
theorem dL_law_945 : decode cL_law 945 = .ok (.ireturn, 1) := by decide +kernel
theorem dL_law_946 : decode cL_law 946 = .ok (.aload_n 1, 1) := by decide +kernel
theorem dL_law_947 : decode cL_law 947 = .ok (.aload_n 0, 1) := by decide +kernel
theorem dL_law_948 : decode cL_law 948 = .ok (.iload_n 3, 1) := by decide +kernel
theorem dL_law_949 : decode cL_law 949 = .ok (.iconst 1, 1) := by decide +kernel
theorem dL_law_950 : decode cL_law 950 = .ok (.iadd, 1) := by decide +kernel
theorem dL_law_951 : decode cL_law 951 = .ok (.iaload, 1) := by decide +kernel
theorem dL_law_952 : decode cL_law 952 = .ok (.aload_n 0, 1) := by decide +kernel
theorem dL_law_953 : decode cL_law 953 = .ok (.iload_n 3, 1) := by decide +kernel
theorem dL_law_954 : decode cL_law 954 = .ok (.iconst 2, 1) := by decide +kernel
theorem dL_law_955 : decode cL_law 955 = .ok (.iadd, 1) := by decide +kernel
theorem dL_law_956 : decode cL_law 956 = .ok (.iaload, 1) := by decide +kernel
theorem dL_law_957 : decode cL_law 957 = .ok (.aload_n 0, 1) := by decide +kernel
theorem dL_law_958 : decode cL_law 958 = .ok (.iload_n 3, 1) := by decide +kernel
theorem dL_law_959 : decode cL_law 959 = .ok (.iconst 3, 1) := by decide +kernel
theorem dL_law_960 : decode cL_law 960 = .ok (.iadd, 1) := by decide +kernel
theorem dL_law_961 : decode cL_law 961 = .ok (.iaload, 1) := by decide +kernel
theorem dL_law_962 : decode cL_law 962 = .ok (.invokevirtual 122, 3) := by decide +kernel
theorem dL_law_965 : decode cL_law 965 = .ok (.aload_n 2, 1) := by decide +kernel
theorem dL_law_966 : decode cL_law 966 = .ok (.aload_n 0, 1) := by decide +kernel
theorem dL_law_967 : decode cL_law 967 = .ok (.iload_n 3, 1) := by decide +kernel
theorem dL_law_968 : decode cL_law 968 = .ok (.iconst 1, 1) := by decide +kernel
theorem dL_law_969 : decode cL_law 969 = .ok (.iadd, 1) := by decide +kernel
theorem dL_law_970 : decode cL_law 970 = .ok (.iaload, 1) := by decide +kernel
theorem dL_law_971 : decode cL_law 971 = .ok (.aload_n 0, 1) := by decide +kernel
theorem dL_law_972 : decode cL_law 972 = .ok (.iload_n 3, 1) := by decide +kernel
theorem dL_law_973 : decode cL_law 973 = .ok (.iconst 2, 1) := by decide +kernel
theorem dL_law_974 : decode cL_law 974 = .ok (.iadd, 1) := by decide +kernel
theorem dL_law_975 : decode cL_law 975 = .ok (.iaload, 1) := by decide +kernel
theorem dL_law_976 : decode cL_law 976 = .ok (.aload_n 0, 1) := by decide +kernel
theorem dL_law_977 : decode cL_law 977 = .ok (.iload_n 3, 1) := by decide +kernel
theorem dL_law_978 : decode cL_law 978 = .ok (.iconst 3, 1) := by decide +kernel
theorem dL_law_979 : decode cL_law 979 = .ok (.iadd, 1) := by decide +kernel
theorem dL_law_980 : decode cL_law 980 = .ok (.iaload, 1) := by decide +kernel
theorem dL_law_981 : decode cL_law 981 = .ok (.invokevirtual 125, 3) := by decide +kernel
theorem dL_law_984 : decode cL_law 984 = .ok (.if_icmp .eq 94, 3) := by decide +kernel
theorem dL_law_987 : decode cL_law 987 = .ok (.iconst 0, 1) := by decide +kernel
theorem dL_law_988 : decode cL_law 988 = .ok (.ireturn, 1) := by decide +kernel
theorem dL_law_989 : decode cL_law 989 = .ok (.aload_n 1, 1) := by decide +kernel
theorem dL_law_990 : decode cL_law 990 = .ok (.aload_n 0, 1) := by decide +kernel
theorem dL_law_991 : decode cL_law 991 = .ok (.iload_n 3, 1) := by decide +kernel
theorem dL_law_992 : decode cL_law 992 = .ok (.iconst 1, 1) := by decide +kernel
theorem dL_law_993 : decode cL_law 993 = .ok (.iadd, 1) := by decide +kernel
theorem dL_law_994 : decode cL_law 994 = .ok (.iaload, 1) := by decide +kernel
theorem dL_law_995 : decode cL_law 995 = .ok (.aload_n 0, 1) := by decide +kernel
theorem dL_law_996 : decode cL_law 996 = .ok (.iload_n 3, 1) := by decide +kernel
theorem dL_law_997 : decode cL_law 997 = .ok (.iconst 2, 1) := by decide +kernel
theorem dL_law_998 : decode cL_law 998 = .ok (.iadd, 1) := by decide +kernel
theorem dL_law_999 : decode cL_law 999 = .ok (.iaload, 1) := by decide +kernel
theorem dL_law_1000 : decode cL_law 1000 = .ok (.aload_n 0, 1) := by decide +kernel
theorem dL_law_1001 : decode cL_law 1001 = .ok (.iload_n 3, 1) := by decide +kernel
theorem dL_law_1002 : decode cL_law 1002 = .ok (.iconst 3, 1) := by decide +kernel
theorem dL_law_1003 : decode cL_law 1003 = .ok (.iadd, 1) := by decide +kernel
theorem dL_law_1004 : decode cL_law 1004 = .ok (.iaload, 1) := by decide +kernel
theorem dL_law_1005 : decode cL_law 1005 = .ok (.aload_n 0, 1) := by decide +kernel
theorem dL_law_1006 : decode cL_law 1006 = .ok (.iload_n 3, 1) := by decide +kernel
theorem dL_law_1007 : decode cL_law 1007 = .ok (.iconst 4, 1) := by decide +kernel
theorem dL_law_1008 : decode cL_law 1008 = .ok (.iadd, 1) := by decide +kernel
theorem dL_law_1009 : decode cL_law 1009 = .ok (.iaload, 1) := by decide +kernel
theorem dL_law_1010 : decode cL_law 1010 = .ok (.invokevirtual 126, 3) := by decide +kernel
theorem dL_law_1013 : decode cL_law 1013 = .ok (.aload_n 2, 1) := by decide +kernel
theorem dL_law_1014 : decode cL_law 1014 = .ok (.aload_n 0, 1) := by decide +kernel
theorem dL_law_1015 : decode cL_law 1015 = .ok (.iload_n 3, 1) := by decide +kernel
theorem dL_law_1016 : decode cL_law 1016 = .ok (.iconst 1, 1) := by decide +kernel
theorem dL_law_1017 : decode cL_law 1017 = .ok (.iadd, 1) := by decide +kernel
theorem dL_law_1018 : decode cL_law 1018 = .ok (.iaload, 1) := by decide +kernel
theorem dL_law_1019 : decode cL_law 1019 = .ok (.aload_n 0, 1) := by decide +kernel
theorem dL_law_1020 : decode cL_law 1020 = .ok (.iload_n 3, 1) := by decide +kernel
theorem dL_law_1021 : decode cL_law 1021 = .ok (.iconst 2, 1) := by decide +kernel
theorem dL_law_1022 : decode cL_law 1022 = .ok (.iadd, 1) := by decide +kernel
theorem dL_law_1023 : decode cL_law 1023 = .ok (.iaload, 1) := by decide +kernel
theorem dL_law_1024 : decode cL_law 1024 = .ok (.aload_n 0, 1) := by decide +kernel
theorem dL_law_1025 : decode cL_law 1025 = .ok (.iload_n 3, 1) := by decide +kernel
theorem dL_law_1026 : decode cL_law 1026 = .ok (.iconst 3, 1) := by decide +kernel
theorem dL_law_1027 : decode cL_law 1027 = .ok (.iadd, 1) := by decide +kernel
theorem dL_law_1028 : decode cL_law 1028 = .ok (.iaload, 1) := by decide +kernel
theorem dL_law_1029 : decode cL_law 1029 = .ok (.aload_n 0, 1) := by decide +kernel
theorem dL_law_1030 : decode cL_law 1030 = .ok (.iload_n 3, 1) := by decide +kernel
theorem dL_law_1031 : decode cL_law 1031 = .ok (.iconst 4, 1) := by decide +kernel
theorem dL_law_1032 : decode cL_law 1032 = .ok (.iadd, 1) := by decide +kernel
theorem dL_law_1033 : decode cL_law 1033 = .ok (.iaload, 1) := by decide +kernel
theorem dL_law_1034 : decode cL_law 1034 = .ok (.invokevirtual 129, 3) := by decide +kernel
theorem dL_law_1037 : decode cL_law 1037 = .ok (.if_icmp .eq 41, 3) := by decide +kernel
theorem dL_law_1040 : decode cL_law 1040 = .ok (.iconst 0, 1) := by decide +kernel
theorem dL_law_1041 : decode cL_law 1041 = .ok (.ireturn, 1) := by decide +kernel
theorem dL_law_1042 : decode cL_law 1042 = .ok (.aload_n 1, 1) := by decide +kernel
theorem dL_law_1043 : decode cL_law 1043 = .ok (.invokevirtual 130, 3) := by decide +kernel
theorem dL_law_1046 : decode cL_law 1046 = .ok (.aload_n 2, 1) := by decide +kernel
theorem dL_law_1047 : decode cL_law 1047 = .ok (.invokevirtual 133, 3) := by decide +kernel
theorem dL_law_1050 : decode cL_law 1050 = .ok (.if_icmp .eq 28, 3) := by decide +kernel
theorem dL_law_1053 : decode cL_law 1053 = .ok (.iconst 0, 1) := by decide +kernel
theorem dL_law_1054 : decode cL_law 1054 = .ok (.ireturn, 1) := by decide +kernel
theorem dL_law_1055 : decode cL_law 1055 = .ok (.aload_n 1, 1) := by decide +kernel
theorem dL_law_1056 : decode cL_law 1056 = .ok (.aload_n 0, 1) := by decide +kernel
theorem dL_law_1057 : decode cL_law 1057 = .ok (.iload_n 3, 1) := by decide +kernel
theorem dL_law_1058 : decode cL_law 1058 = .ok (.iconst 1, 1) := by decide +kernel
theorem dL_law_1059 : decode cL_law 1059 = .ok (.iadd, 1) := by decide +kernel
theorem dL_law_1060 : decode cL_law 1060 = .ok (.iaload, 1) := by decide +kernel
theorem dL_law_1061 : decode cL_law 1061 = .ok (.invokevirtual 134, 3) := by decide +kernel
theorem dL_law_1064 : decode cL_law 1064 = .ok (.aload_n 2, 1) := by decide +kernel
theorem dL_law_1065 : decode cL_law 1065 = .ok (.aload_n 0, 1) := by decide +kernel
theorem dL_law_1066 : decode cL_law 1066 = .ok (.iload_n 3, 1) := by decide +kernel
theorem dL_law_1067 : decode cL_law 1067 = .ok (.iconst 1, 1) := by decide +kernel
theorem dL_law_1068 : decode cL_law 1068 = .ok (.iadd, 1) := by decide +kernel
theorem dL_law_1069 : decode cL_law 1069 = .ok (.iaload, 1) := by decide +kernel
theorem dL_law_1070 : decode cL_law 1070 = .ok (.invokevirtual 137, 3) := by decide +kernel
theorem dL_law_1073 : decode cL_law 1073 = .ok (.if_icmp .eq 5, 3) := by decide +kernel
theorem dL_law_1076 : decode cL_law 1076 = .ok (.iconst 0, 1) := by decide +kernel
theorem dL_law_1077 : decode cL_law 1077 = .ok (.ireturn, 1) := by decide +kernel
theorem dL_law_1078 : decode cL_law 1078 = .ok (.iinc 3 5, 3) := by decide +kernel
theorem dL_law_1081 : decode cL_law 1081 = .ok (.goto (-1063), 3) := by decide +kernel
theorem dL_law_1084 : decode cL_law 1084 = .ok (.iconst 1, 1) := by decide +kernel
theorem dL_law_1085 : decode cL_law 1085 = .ok (.ireturn, 1) := by decide +kernel
end
section
theorem dX0_init_0 : decode cX0_init 0 = .ok (.aload_n 0, 1) := by decide +kernel
theorem dX0_init_1 : decode cX0_init 1 = .ok (.invokespecial 3, 3) := by decide +kernel
theorem dX0_init_4 : decode cX0_init 4 = .ok (.aload_n 0, 1) := by decide +kernel
theorem dX0_init_5 : decode cX0_init 5 = .ok (.sipush 480, 3) := by decide +kernel
theorem dX0_init_8 : decode cX0_init 8 = .ok (.newarray .int, 2) := by decide +kernel
theorem dX0_init_10 : decode cX0_init 10 = .ok (.putfield 11, 3) := by decide +kernel
theorem dX0_init_13 : decode cX0_init 13 = .ok (.aload_n 0, 1) := by decide +kernel
theorem dX0_init_14 : decode cX0_init 14 = .ok (.bipush 7, 2) := by decide +kernel
theorem dX0_init_16 : decode cX0_init 16 = .ok (.putfield 15, 3) := by decide +kernel
theorem dX0_init_19 : decode cX0_init 19 = .ok (.return_, 1) := by decide +kernel
theorem dX0_begin_0 : decode cX0_begin 0 = .ok (.aload_n 0, 1) := by decide +kernel
theorem dX0_begin_1 : decode cX0_begin 1 = .ok (.aload_n 1, 1) := by decide +kernel
theorem dX0_begin_2 : decode cX0_begin 2 = .ok (.getfield 19, 3) := by decide +kernel
theorem dX0_begin_5 : decode cX0_begin 5 = .ok (.putfield 15, 3) := by decide +kernel
theorem dX0_begin_8 : decode cX0_begin 8 = .ok (.aload_n 0, 1) := by decide +kernel
theorem dX0_begin_9 : decode cX0_begin 9 = .ok (.iload_n 2, 1) := by decide +kernel
theorem dX0_begin_10 : decode cX0_begin 10 = .ok (.aload_n 1, 1) := by decide +kernel
theorem dX0_begin_11 : decode cX0_begin 11 = .ok (.getfield 22, 3) := by decide +kernel
theorem dX0_begin_14 : decode cX0_begin 14 = .ok (.imul, 1) := by decide +kernel
theorem dX0_begin_15 : decode cX0_begin 15 = .ok (.bipush 24, 2) := by decide +kernel
theorem dX0_begin_17 : decode cX0_begin 17 = .ok (.invokestatic 25, 3) := by decide +kernel
theorem dX0_begin_20 : decode cX0_begin 20 = .ok (.putfield 31, 3) := by decide +kernel
theorem dX0_begin_23 : decode cX0_begin 23 = .ok (.aload_n 0, 1) := by decide +kernel
theorem dX0_begin_24 : decode cX0_begin 24 = .ok (.iload_n 3, 1) := by decide +kernel
theorem dX0_begin_25 : decode cX0_begin 25 = .ok (.aload_n 1, 1) := by decide +kernel
theorem dX0_begin_26 : decode cX0_begin 26 = .ok (.getfield 34, 3) := by decide +kernel
theorem dX0_begin_29 : decode cX0_begin 29 = .ok (.imul, 1) := by decide +kernel
theorem dX0_begin_30 : decode cX0_begin 30 = .ok (.bipush 20, 2) := by decide +kernel
theorem dX0_begin_32 : decode cX0_begin 32 = .ok (.invokestatic 25, 3) := by decide +kernel
theorem dX0_begin_35 : decode cX0_begin 35 = .ok (.putfield 37, 3) := by decide +kernel
theorem dX0_begin_38 : decode cX0_begin 38 = .ok (.aload_n 0, 1) := by decide +kernel
theorem dX0_begin_39 : decode cX0_begin 39 = .ok (.getfield 11, 3) := by decide +kernel
theorem dX0_begin_42 : decode cX0_begin 42 = .ok (.iconst 0, 1) := by decide +kernel
theorem dX0_begin_43 : decode cX0_begin 43 = .ok (.invokestatic 40, 3) := by decide +kernel
theorem dX0_begin_46 : decode cX0_begin 46 = .ok (.return_, 1) := by decide +kernel
theorem dX0_putBlock_0 : decode cX0_putBlock 0 = .ok (.iconst 0, 1) := by decide +kernel
theorem dX0_putBlock_1 : decode cX0_putBlock 1 = .ok (.istore 6, 2) := by decide +kernel
theorem dX0_putBlock_3 : decode cX0_putBlock 3 = .ok (.iload 6, 2) := by decide +kernel
theorem dX0_putBlock_5 : decode cX0_putBlock 5 = .ok (.aload_n 1, 1) := by decide +kernel
theorem dX0_putBlock_6 : decode cX0_putBlock 6 = .ok (.getfield 22, 3) := by decide +kernel
theorem dX0_putBlock_9 : decode cX0_putBlock 9 = .ok (.if_icmp .ge 85, 3) := by decide +kernel
theorem dX0_putBlock_12 : decode cX0_putBlock 12 = .ok (.iconst 0, 1) := by decide +kernel
theorem dX0_putBlock_13 : decode cX0_putBlock 13 = .ok (.istore 7, 2) := by decide +kernel
theorem dX0_putBlock_15 : decode cX0_putBlock 15 = .ok (.iload 7, 2) := by decide +kernel
theorem dX0_putBlock_17 : decode cX0_putBlock 17 = .ok (.aload_n 1, 1) := by decide +kernel
theorem dX0_putBlock_18 : decode cX0_putBlock 18 = .ok (.getfield 34, 3) := by decide +kernel
theorem dX0_putBlock_21 : decode cX0_putBlock 21 = .ok (.if_icmp .ge 67, 3) := by decide +kernel
theorem dX0_putBlock_24 : decode cX0_putBlock 24 = .ok (.iload 4, 2) := by decide +kernel
theorem dX0_putBlock_26 : decode cX0_putBlock 26 = .ok (.aload_n 1, 1) := by decide +kernel
theorem dX0_putBlock_27 : decode cX0_putBlock 27 = .ok (.iconst 0, 1) := by decide +kernel
theorem dX0_putBlock_28 : decode cX0_putBlock 28 = .ok (.iload 6, 2) := by decide +kernel
theorem dX0_putBlock_30 : decode cX0_putBlock 30 = .ok (.iload 7, 2) := by decide +kernel
theorem dX0_putBlock_32 : decode cX0_putBlock 32 = .ok (.invokevirtual 46, 3) := by decide +kernel
theorem dX0_putBlock_35 : decode cX0_putBlock 35 = .ok (.imul, 1) := by decide +kernel
theorem dX0_putBlock_36 : decode cX0_putBlock 36 = .ok (.iload 5, 2) := by decide +kernel
theorem dX0_putBlock_38 : decode cX0_putBlock 38 = .ok (.aload_n 1, 1) := by decide +kernel
theorem dX0_putBlock_39 : decode cX0_putBlock 39 = .ok (.iconst 1, 1) := by decide +kernel
theorem dX0_putBlock_40 : decode cX0_putBlock 40 = .ok (.iload 6, 2) := by decide +kernel
theorem dX0_putBlock_42 : decode cX0_putBlock 42 = .ok (.iload 7, 2) := by decide +kernel
theorem dX0_putBlock_44 : decode cX0_putBlock 44 = .ok (.invokevirtual 46, 3) := by decide +kernel
theorem dX0_putBlock_47 : decode cX0_putBlock 47 = .ok (.imul, 1) := by decide +kernel
theorem dX0_putBlock_48 : decode cX0_putBlock 48 = .ok (.iadd, 1) := by decide +kernel
theorem dX0_putBlock_49 : decode cX0_putBlock 49 = .ok (.istore 8, 2) := by decide +kernel
theorem dX0_putBlock_51 : decode cX0_putBlock 51 = .ok (.aload_n 0, 1) := by decide +kernel
theorem dX0_putBlock_52 : decode cX0_putBlock 52 = .ok (.iload_n 2, 1) := by decide +kernel
theorem dX0_putBlock_53 : decode cX0_putBlock 53 = .ok (.aload_n 1, 1) := by decide +kernel
theorem dX0_putBlock_54 : decode cX0_putBlock 54 = .ok (.getfield 22, 3) := by decide +kernel
theorem dX0_putBlock_57 : decode cX0_putBlock 57 = .ok (.imul, 1) := by decide +kernel
theorem dX0_putBlock_58 : decode cX0_putBlock 58 = .ok (.iload 6, 2) := by decide +kernel
theorem dX0_putBlock_60 : decode cX0_putBlock 60 = .ok (.iadd, 1) := by decide +kernel
theorem dX0_putBlock_61 : decode cX0_putBlock 61 = .ok (.iload_n 3, 1) := by decide +kernel
theorem dX0_putBlock_62 : decode cX0_putBlock 62 = .ok (.aload_n 1, 1) := by decide +kernel
theorem dX0_putBlock_63 : decode cX0_putBlock 63 = .ok (.getfield 34, 3) := by decide +kernel
theorem dX0_putBlock_66 : decode cX0_putBlock 66 = .ok (.imul, 1) := by decide +kernel
theorem dX0_putBlock_67 : decode cX0_putBlock 67 = .ok (.iload 7, 2) := by decide +kernel
theorem dX0_putBlock_69 : decode cX0_putBlock 69 = .ok (.iadd, 1) := by decide +kernel
theorem dX0_putBlock_70 : decode cX0_putBlock 70 = .ok (.iload 8, 2) := by decide +kernel
theorem dX0_putBlock_72 : decode cX0_putBlock 72 = .ok (.aload_n 0, 1) := by decide +kernel
theorem dX0_putBlock_73 : decode cX0_putBlock 73 = .ok (.getfield 15, 3) := by decide +kernel
theorem dX0_putBlock_76 : decode cX0_putBlock 76 = .ok (.invokestatic 50, 3) := by decide +kernel
theorem dX0_putBlock_79 : decode cX0_putBlock 79 = .ok (.invokevirtual 53, 3) := by decide +kernel
theorem dX0_putBlock_82 : decode cX0_putBlock 82 = .ok (.iinc 7 1, 3) := by decide +kernel
theorem dX0_putBlock_85 : decode cX0_putBlock 85 = .ok (.goto (-70), 3) := by decide +kernel
theorem dX0_putBlock_88 : decode cX0_putBlock 88 = .ok (.iinc 6 1, 3) := by decide +kernel
theorem dX0_putBlock_91 : decode cX0_putBlock 91 = .ok (.goto (-88), 3) := by decide +kernel
theorem dX0_putBlock_94 : decode cX0_putBlock 94 = .ok (.return_, 1) := by decide +kernel
theorem dX0_addImageUnderA_0 : decode cX0_addImageUnderA 0 = .ok (.aload_n 0, 1) := by decide +kernel
theorem dX0_addImageUnderA_1 : decode cX0_addImageUnderA 1 = .ok (.getfield 37, 3) := by decide +kernel
theorem dX0_addImageUnderA_4 : decode cX0_addImageUnderA 4 = .ok (.bipush 20, 2) := by decide +kernel
theorem dX0_addImageUnderA_6 : decode cX0_addImageUnderA 6 = .ok (.if_icmp .lt 4, 3) := by decide +kernel
theorem dX0_addImageUnderA_9 : decode cX0_addImageUnderA 9 = .ok (.return_, 1) := by decide +kernel
theorem dX0_addImageUnderA_10 : decode cX0_addImageUnderA 10 = .ok (.aload_n 0, 1) := by decide +kernel
theorem dX0_addImageUnderA_11 : decode cX0_addImageUnderA 11 = .ok (.dup, 1) := by decide +kernel
theorem dX0_addImageUnderA_12 : decode cX0_addImageUnderA 12 = .ok (.getfield 37, 3) := by decide +kernel
theorem dX0_addImageUnderA_15 : decode cX0_addImageUnderA 15 = .ok (.iconst 1, 1) := by decide +kernel
theorem dX0_addImageUnderA_16 : decode cX0_addImageUnderA 16 = .ok (.iadd, 1) := by decide +kernel
theorem dX0_addImageUnderA_17 : decode cX0_addImageUnderA 17 = .ok (.putfield 37, 3) := by decide +kernel
theorem dX0_addImageUnderA_20 : decode cX0_addImageUnderA 20 = .ok (.iconst 0, 1) := by decide +kernel
theorem dX0_addImageUnderA_21 : decode cX0_addImageUnderA 21 = .ok (.istore_n 3, 1) := by decide +kernel
theorem dX0_addImageUnderA_22 : decode cX0_addImageUnderA 22 = .ok (.iload_n 3, 1) := by decide +kernel
theorem dX0_addImageUnderA_23 : decode cX0_addImageUnderA 23 = .ok (.aload_n 1, 1) := by decide +kernel
theorem dX0_addImageUnderA_24 : decode cX0_addImageUnderA 24 = .ok (.getfield 22, 3) := by decide +kernel
theorem dX0_addImageUnderA_27 : decode cX0_addImageUnderA 27 = .ok (.if_icmp .ge 75, 3) := by decide +kernel
theorem dX0_addImageUnderA_30 : decode cX0_addImageUnderA 30 = .ok (.iconst 0, 1) := by decide +kernel
theorem dX0_addImageUnderA_31 : decode cX0_addImageUnderA 31 = .ok (.istore 4, 2) := by decide +kernel
theorem dX0_addImageUnderA_33 : decode cX0_addImageUnderA 33 = .ok (.iconst 0, 1) := by decide +kernel
theorem dX0_addImageUnderA_34 : decode cX0_addImageUnderA 34 = .ok (.istore 5, 2) := by decide +kernel
theorem dX0_addImageUnderA_36 : decode cX0_addImageUnderA 36 = .ok (.iload 5, 2) := by decide +kernel
theorem dX0_addImageUnderA_38 : decode cX0_addImageUnderA 38 = .ok (.aload_n 1, 1) := by decide +kernel
theorem dX0_addImageUnderA_39 : decode cX0_addImageUnderA 39 = .ok (.getfield 34, 3) := by decide +kernel
theorem dX0_addImageUnderA_42 : decode cX0_addImageUnderA 42 = .ok (.if_icmp .ge 34, 3) := by decide +kernel
theorem dX0_addImageUnderA_45 : decode cX0_addImageUnderA 45 = .ok (.iload 5, 2) := by decide +kernel
theorem dX0_addImageUnderA_47 : decode cX0_addImageUnderA 47 = .ok (.aload_n 2, 1) := by decide +kernel
theorem dX0_addImageUnderA_48 : decode cX0_addImageUnderA 48 = .ok (.arraylength, 1) := by decide +kernel
theorem dX0_addImageUnderA_49 : decode cX0_addImageUnderA 49 = .ok (.if_icmp .ge 27, 3) := by decide +kernel
theorem dX0_addImageUnderA_52 : decode cX0_addImageUnderA 52 = .ok (.iload 4, 2) := by decide +kernel
theorem dX0_addImageUnderA_54 : decode cX0_addImageUnderA 54 = .ok (.aload_n 1, 1) := by decide +kernel
theorem dX0_addImageUnderA_55 : decode cX0_addImageUnderA 55 = .ok (.iconst 0, 1) := by decide +kernel
theorem dX0_addImageUnderA_56 : decode cX0_addImageUnderA 56 = .ok (.iload_n 3, 1) := by decide +kernel
theorem dX0_addImageUnderA_57 : decode cX0_addImageUnderA 57 = .ok (.iload 5, 2) := by decide +kernel
theorem dX0_addImageUnderA_59 : decode cX0_addImageUnderA 59 = .ok (.invokevirtual 46, 3) := by decide +kernel
theorem dX0_addImageUnderA_62 : decode cX0_addImageUnderA 62 = .ok (.aload_n 2, 1) := by decide +kernel
theorem dX0_addImageUnderA_63 : decode cX0_addImageUnderA 63 = .ok (.iload 5, 2) := by decide +kernel
theorem dX0_addImageUnderA_65 : decode cX0_addImageUnderA 65 = .ok (.iaload, 1) := by decide +kernel
theorem dX0_addImageUnderA_66 : decode cX0_addImageUnderA 66 = .ok (.imul, 1) := by decide +kernel
theorem dX0_addImageUnderA_67 : decode cX0_addImageUnderA 67 = .ok (.iadd, 1) := by decide +kernel
theorem dX0_addImageUnderA_68 : decode cX0_addImageUnderA 68 = .ok (.istore 4, 2) := by decide +kernel
theorem dX0_addImageUnderA_70 : decode cX0_addImageUnderA 70 = .ok (.iinc 5 1, 3) := by decide +kernel
theorem dX0_addImageUnderA_73 : decode cX0_addImageUnderA 73 = .ok (.goto (-37), 3) := by decide +kernel
theorem dX0_addImageUnderA_76 : decode cX0_addImageUnderA 76 = .ok (.aload_n 0, 1) := by decide +kernel
theorem dX0_addImageUnderA_77 : decode cX0_addImageUnderA 77 = .ok (.iload_n 3, 1) := by decide +kernel
theorem dX0_addImageUnderA_78 : decode cX0_addImageUnderA 78 = .ok (.aload_n 0, 1) := by decide +kernel
theorem dX0_addImageUnderA_79 : decode cX0_addImageUnderA 79 = .ok (.getfield 37, 3) := by decide +kernel
theorem dX0_addImageUnderA_82 : decode cX0_addImageUnderA 82 = .ok (.iconst 1, 1) := by decide +kernel
theorem dX0_addImageUnderA_83 : decode cX0_addImageUnderA 83 = .ok (.isub, 1) := by decide +kernel
theorem dX0_addImageUnderA_84 : decode cX0_addImageUnderA 84 = .ok (.iload 4, 2) := by decide +kernel
theorem dX0_addImageUnderA_86 : decode cX0_addImageUnderA 86 = .ok (.aload_n 0, 1) := by decide +kernel
theorem dX0_addImageUnderA_87 : decode cX0_addImageUnderA 87 = .ok (.getfield 15, 3) := by decide +kernel
theorem dX0_addImageUnderA_90 : decode cX0_addImageUnderA 90 = .ok (.invokestatic 50, 3) := by decide +kernel
theorem dX0_addImageUnderA_93 : decode cX0_addImageUnderA 93 = .ok (.invokevirtual 53, 3) := by decide +kernel
theorem dX0_addImageUnderA_96 : decode cX0_addImageUnderA 96 = .ok (.iinc 3 1, 3) := by decide +kernel
theorem dX0_addImageUnderA_99 : decode cX0_addImageUnderA 99 = .ok (.goto (-77), 3) := by decide +kernel
theorem dX0_addImageUnderA_102 : decode cX0_addImageUnderA 102 = .ok (.return_, 1) := by decide +kernel
theorem dX0_useUpForRank_0 : decode cX0_useUpForRank 0 = .ok (.iconst 0, 1) := by decide +kernel
theorem dX0_useUpForRank_1 : decode cX0_useUpForRank 1 = .ok (.istore_n 1, 1) := by decide +kernel
theorem dX0_useUpForRank_2 : decode cX0_useUpForRank 2 = .ok (.iconst 0, 1) := by decide +kernel
theorem dX0_useUpForRank_3 : decode cX0_useUpForRank 3 = .ok (.istore_n 2, 1) := by decide +kernel
theorem dX0_useUpForRank_4 : decode cX0_useUpForRank 4 = .ok (.iload_n 2, 1) := by decide +kernel
theorem dX0_useUpForRank_5 : decode cX0_useUpForRank 5 = .ok (.aload_n 0, 1) := by decide +kernel
theorem dX0_useUpForRank_6 : decode cX0_useUpForRank 6 = .ok (.getfield 37, 3) := by decide +kernel
theorem dX0_useUpForRank_9 : decode cX0_useUpForRank 9 = .ok (.if_icmp .ge 44, 3) := by decide +kernel
theorem dX0_useUpForRank_12 : decode cX0_useUpForRank 12 = .ok (.iload_n 1, 1) := by decide +kernel
theorem dX0_useUpForRank_13 : decode cX0_useUpForRank 13 = .ok (.aload_n 0, 1) := by decide +kernel
theorem dX0_useUpForRank_14 : decode cX0_useUpForRank 14 = .ok (.getfield 31, 3) := by decide +kernel
theorem dX0_useUpForRank_17 : decode cX0_useUpForRank 17 = .ok (.if_icmp .ge 36, 3) := by decide +kernel
theorem dX0_useUpForRank_20 : decode cX0_useUpForRank 20 = .ok (.aload_n 0, 1) := by decide +kernel
theorem dX0_useUpForRank_21 : decode cX0_useUpForRank 21 = .ok (.iload_n 1, 1) := by decide +kernel
theorem dX0_useUpForRank_22 : decode cX0_useUpForRank 22 = .ok (.iload_n 2, 1) := by decide +kernel
theorem dX0_useUpForRank_23 : decode cX0_useUpForRank 23 = .ok (.invokevirtual 57, 3) := by decide +kernel
theorem dX0_useUpForRank_26 : decode cX0_useUpForRank 26 = .ok (.istore_n 3, 1) := by decide +kernel
theorem dX0_useUpForRank_27 : decode cX0_useUpForRank 27 = .ok (.iload_n 3, 1) := by decide +kernel
theorem dX0_useUpForRank_28 : decode cX0_useUpForRank 28 = .ok (.ifCond .lt 19, 3) := by decide +kernel
theorem dX0_useUpForRank_31 : decode cX0_useUpForRank 31 = .ok (.aload_n 0, 1) := by decide +kernel
theorem dX0_useUpForRank_32 : decode cX0_useUpForRank 32 = .ok (.iload_n 1, 1) := by decide +kernel
theorem dX0_useUpForRank_33 : decode cX0_useUpForRank 33 = .ok (.iload_n 3, 1) := by decide +kernel
theorem dX0_useUpForRank_34 : decode cX0_useUpForRank 34 = .ok (.iload_n 2, 1) := by decide +kernel
theorem dX0_useUpForRank_35 : decode cX0_useUpForRank 35 = .ok (.invokevirtual 60, 3) := by decide +kernel
theorem dX0_useUpForRank_38 : decode cX0_useUpForRank 38 = .ok (.aload_n 0, 1) := by decide +kernel
theorem dX0_useUpForRank_39 : decode cX0_useUpForRank 39 = .ok (.iload_n 1, 1) := by decide +kernel
theorem dX0_useUpForRank_40 : decode cX0_useUpForRank 40 = .ok (.iload_n 2, 1) := by decide +kernel
theorem dX0_useUpForRank_41 : decode cX0_useUpForRank 41 = .ok (.invokevirtual 63, 3) := by decide +kernel
theorem dX0_useUpForRank_44 : decode cX0_useUpForRank 44 = .ok (.iinc 1 1, 3) := by decide +kernel
theorem dX0_useUpForRank_47 : decode cX0_useUpForRank 47 = .ok (.iinc 2 1, 3) := by decide +kernel
theorem dX0_useUpForRank_50 : decode cX0_useUpForRank 50 = .ok (.goto (-46), 3) := by decide +kernel
theorem dX0_useUpForRank_53 : decode cX0_useUpForRank 53 = .ok (.iload_n 1, 1) := by decide +kernel
theorem dX0_useUpForRank_54 : decode cX0_useUpForRank 54 = .ok (.ireturn, 1) := by decide +kernel
theorem dX0_findPivot_0 : decode cX0_findPivot 0 = .ok (.iload_n 1, 1) := by decide +kernel
theorem dX0_findPivot_1 : decode cX0_findPivot 1 = .ok (.istore_n 3, 1) := by decide +kernel
theorem dX0_findPivot_2 : decode cX0_findPivot 2 = .ok (.iload_n 3, 1) := by decide +kernel
theorem dX0_findPivot_3 : decode cX0_findPivot 3 = .ok (.aload_n 0, 1) := by decide +kernel
theorem dX0_findPivot_4 : decode cX0_findPivot 4 = .ok (.getfield 31, 3) := by decide +kernel
theorem dX0_findPivot_7 : decode cX0_findPivot 7 = .ok (.if_icmp .ge 25, 3) := by decide +kernel
theorem dX0_findPivot_10 : decode cX0_findPivot 10 = .ok (.aload_n 0, 1) := by decide +kernel
theorem dX0_findPivot_11 : decode cX0_findPivot 11 = .ok (.getfield 11, 3) := by decide +kernel
theorem dX0_findPivot_14 : decode cX0_findPivot 14 = .ok (.iload_n 3, 1) := by decide +kernel
theorem dX0_findPivot_15 : decode cX0_findPivot 15 = .ok (.bipush 20, 2) := by decide +kernel
theorem dX0_findPivot_17 : decode cX0_findPivot 17 = .ok (.imul, 1) := by decide +kernel
theorem dX0_findPivot_18 : decode cX0_findPivot 18 = .ok (.iload_n 2, 1) := by decide +kernel
theorem dX0_findPivot_19 : decode cX0_findPivot 19 = .ok (.iadd, 1) := by decide +kernel
theorem dX0_findPivot_20 : decode cX0_findPivot 20 = .ok (.iaload, 1) := by decide +kernel
theorem dX0_findPivot_21 : decode cX0_findPivot 21 = .ok (.ifCond .eq 5, 3) := by decide +kernel
theorem dX0_findPivot_24 : decode cX0_findPivot 24 = .ok (.iload_n 3, 1) := by decide +kernel
theorem dX0_findPivot_25 : decode cX0_findPivot 25 = .ok (.ireturn, 1) := by decide +kernel
theorem dX0_findPivot_26 : decode cX0_findPivot 26 = .ok (.iinc 3 1, 3) := by decide +kernel
theorem dX0_findPivot_29 : decode cX0_findPivot 29 = .ok (.goto (-27), 3) := by decide +kernel
theorem dX0_findPivot_32 : decode cX0_findPivot 32 = .ok (.iconst (-1), 1) := by decide +kernel
theorem dX0_findPivot_33 : decode cX0_findPivot 33 = .ok (.ireturn, 1) := by decide +kernel
theorem dX0_exchangeRows_0 : decode cX0_exchangeRows 0 = .ok (.iload_n 3, 1) := by decide +kernel
theorem dX0_exchangeRows_1 : decode cX0_exchangeRows 1 = .ok (.istore 4, 2) := by decide +kernel
theorem dX0_exchangeRows_3 : decode cX0_exchangeRows 3 = .ok (.iload 4, 2) := by decide +kernel
theorem dX0_exchangeRows_5 : decode cX0_exchangeRows 5 = .ok (.aload_n 0, 1) := by decide +kernel
theorem dX0_exchangeRows_6 : decode cX0_exchangeRows 6 = .ok (.getfield 37, 3) := by decide +kernel
theorem dX0_exchangeRows_9 : decode cX0_exchangeRows 9 = .ok (.if_icmp .ge 61, 3) := by decide +kernel
theorem dX0_exchangeRows_12 : decode cX0_exchangeRows 12 = .ok (.aload_n 0, 1) := by decide +kernel
theorem dX0_exchangeRows_13 : decode cX0_exchangeRows 13 = .ok (.getfield 11, 3) := by decide +kernel
theorem dX0_exchangeRows_16 : decode cX0_exchangeRows 16 = .ok (.iload_n 1, 1) := by decide +kernel
theorem dX0_exchangeRows_17 : decode cX0_exchangeRows 17 = .ok (.bipush 20, 2) := by decide +kernel
theorem dX0_exchangeRows_19 : decode cX0_exchangeRows 19 = .ok (.imul, 1) := by decide +kernel
theorem dX0_exchangeRows_20 : decode cX0_exchangeRows 20 = .ok (.iload 4, 2) := by decide +kernel
theorem dX0_exchangeRows_22 : decode cX0_exchangeRows 22 = .ok (.iadd, 1) := by decide +kernel
theorem dX0_exchangeRows_23 : decode cX0_exchangeRows 23 = .ok (.iaload, 1) := by decide +kernel
theorem dX0_exchangeRows_24 : decode cX0_exchangeRows 24 = .ok (.istore 5, 2) := by decide +kernel
theorem dX0_exchangeRows_26 : decode cX0_exchangeRows 26 = .ok (.aload_n 0, 1) := by decide +kernel
theorem dX0_exchangeRows_27 : decode cX0_exchangeRows 27 = .ok (.getfield 11, 3) := by decide +kernel
theorem dX0_exchangeRows_30 : decode cX0_exchangeRows 30 = .ok (.iload_n 1, 1) := by decide +kernel
theorem dX0_exchangeRows_31 : decode cX0_exchangeRows 31 = .ok (.bipush 20, 2) := by decide +kernel
theorem dX0_exchangeRows_33 : decode cX0_exchangeRows 33 = .ok (.imul, 1) := by decide +kernel
theorem dX0_exchangeRows_34 : decode cX0_exchangeRows 34 = .ok (.iload 4, 2) := by decide +kernel
theorem dX0_exchangeRows_36 : decode cX0_exchangeRows 36 = .ok (.iadd, 1) := by decide +kernel
theorem dX0_exchangeRows_37 : decode cX0_exchangeRows 37 = .ok (.aload_n 0, 1) := by decide +kernel
theorem dX0_exchangeRows_38 : decode cX0_exchangeRows 38 = .ok (.getfield 11, 3) := by decide +kernel
theorem dX0_exchangeRows_41 : decode cX0_exchangeRows 41 = .ok (.iload_n 2, 1) := by decide +kernel
theorem dX0_exchangeRows_42 : decode cX0_exchangeRows 42 = .ok (.bipush 20, 2) := by decide +kernel
theorem dX0_exchangeRows_44 : decode cX0_exchangeRows 44 = .ok (.imul, 1) := by decide +kernel
theorem dX0_exchangeRows_45 : decode cX0_exchangeRows 45 = .ok (.iload 4, 2) := by decide +kernel
theorem dX0_exchangeRows_47 : decode cX0_exchangeRows 47 = .ok (.iadd, 1) := by decide +kernel
theorem dX0_exchangeRows_48 : decode cX0_exchangeRows 48 = .ok (.iaload, 1) := by decide +kernel
theorem dX0_exchangeRows_49 : decode cX0_exchangeRows 49 = .ok (.iastore, 1) := by decide +kernel
theorem dX0_exchangeRows_50 : decode cX0_exchangeRows 50 = .ok (.aload_n 0, 1) := by decide +kernel
theorem dX0_exchangeRows_51 : decode cX0_exchangeRows 51 = .ok (.getfield 11, 3) := by decide +kernel
theorem dX0_exchangeRows_54 : decode cX0_exchangeRows 54 = .ok (.iload_n 2, 1) := by decide +kernel
theorem dX0_exchangeRows_55 : decode cX0_exchangeRows 55 = .ok (.bipush 20, 2) := by decide +kernel
theorem dX0_exchangeRows_57 : decode cX0_exchangeRows 57 = .ok (.imul, 1) := by decide +kernel
theorem dX0_exchangeRows_58 : decode cX0_exchangeRows 58 = .ok (.iload 4, 2) := by decide +kernel
theorem dX0_exchangeRows_60 : decode cX0_exchangeRows 60 = .ok (.iadd, 1) := by decide +kernel
theorem dX0_exchangeRows_61 : decode cX0_exchangeRows 61 = .ok (.iload 5, 2) := by decide +kernel
theorem dX0_exchangeRows_63 : decode cX0_exchangeRows 63 = .ok (.iastore, 1) := by decide +kernel
theorem dX0_exchangeRows_64 : decode cX0_exchangeRows 64 = .ok (.iinc 4 1, 3) := by decide +kernel
theorem dX0_exchangeRows_67 : decode cX0_exchangeRows 67 = .ok (.goto (-64), 3) := by decide +kernel
theorem dX0_exchangeRows_70 : decode cX0_exchangeRows 70 = .ok (.return_, 1) := by decide +kernel
theorem dX0_clearBelow_0 : decode cX0_clearBelow 0 = .ok (.aload_n 0, 1) := by decide +kernel
theorem dX0_clearBelow_1 : decode cX0_clearBelow 1 = .ok (.getfield 11, 3) := by decide +kernel
theorem dX0_clearBelow_4 : decode cX0_clearBelow 4 = .ok (.iload_n 1, 1) := by decide +kernel
theorem dX0_clearBelow_5 : decode cX0_clearBelow 5 = .ok (.bipush 20, 2) := by decide +kernel
theorem dX0_clearBelow_7 : decode cX0_clearBelow 7 = .ok (.imul, 1) := by decide +kernel
theorem dX0_clearBelow_8 : decode cX0_clearBelow 8 = .ok (.iload_n 2, 1) := by decide +kernel
theorem dX0_clearBelow_9 : decode cX0_clearBelow 9 = .ok (.iadd, 1) := by decide +kernel
theorem dX0_clearBelow_10 : decode cX0_clearBelow 10 = .ok (.iaload, 1) := by decide +kernel
theorem dX0_clearBelow_11 : decode cX0_clearBelow 11 = .ok (.istore_n 3, 1) := by decide +kernel
theorem dX0_clearBelow_12 : decode cX0_clearBelow 12 = .ok (.iload_n 1, 1) := by decide +kernel
theorem dX0_clearBelow_13 : decode cX0_clearBelow 13 = .ok (.iconst 1, 1) := by decide +kernel
theorem dX0_clearBelow_14 : decode cX0_clearBelow 14 = .ok (.iadd, 1) := by decide +kernel
theorem dX0_clearBelow_15 : decode cX0_clearBelow 15 = .ok (.istore 4, 2) := by decide +kernel
theorem dX0_clearBelow_17 : decode cX0_clearBelow 17 = .ok (.iload 4, 2) := by decide +kernel
theorem dX0_clearBelow_19 : decode cX0_clearBelow 19 = .ok (.aload_n 0, 1) := by decide +kernel
theorem dX0_clearBelow_20 : decode cX0_clearBelow 20 = .ok (.getfield 31, 3) := by decide +kernel
theorem dX0_clearBelow_23 : decode cX0_clearBelow 23 = .ok (.if_icmp .ge 101, 3) := by decide +kernel
theorem dX0_clearBelow_26 : decode cX0_clearBelow 26 = .ok (.aload_n 0, 1) := by decide +kernel
theorem dX0_clearBelow_27 : decode cX0_clearBelow 27 = .ok (.getfield 11, 3) := by decide +kernel
theorem dX0_clearBelow_30 : decode cX0_clearBelow 30 = .ok (.iload 4, 2) := by decide +kernel
theorem dX0_clearBelow_32 : decode cX0_clearBelow 32 = .ok (.bipush 20, 2) := by decide +kernel
theorem dX0_clearBelow_34 : decode cX0_clearBelow 34 = .ok (.imul, 1) := by decide +kernel
theorem dX0_clearBelow_35 : decode cX0_clearBelow 35 = .ok (.iload_n 2, 1) := by decide +kernel
theorem dX0_clearBelow_36 : decode cX0_clearBelow 36 = .ok (.iadd, 1) := by decide +kernel
theorem dX0_clearBelow_37 : decode cX0_clearBelow 37 = .ok (.iaload, 1) := by decide +kernel
theorem dX0_clearBelow_38 : decode cX0_clearBelow 38 = .ok (.istore 5, 2) := by decide +kernel
theorem dX0_clearBelow_40 : decode cX0_clearBelow 40 = .ok (.iload 5, 2) := by decide +kernel
theorem dX0_clearBelow_42 : decode cX0_clearBelow 42 = .ok (.ifCond .eq 76, 3) := by decide +kernel
theorem dX0_clearBelow_45 : decode cX0_clearBelow 45 = .ok (.iload_n 2, 1) := by decide +kernel
theorem dX0_clearBelow_46 : decode cX0_clearBelow 46 = .ok (.istore 6, 2) := by decide +kernel
theorem dX0_clearBelow_48 : decode cX0_clearBelow 48 = .ok (.iload 6, 2) := by decide +kernel
theorem dX0_clearBelow_50 : decode cX0_clearBelow 50 = .ok (.aload_n 0, 1) := by decide +kernel
theorem dX0_clearBelow_51 : decode cX0_clearBelow 51 = .ok (.getfield 37, 3) := by decide +kernel
theorem dX0_clearBelow_54 : decode cX0_clearBelow 54 = .ok (.if_icmp .ge 64, 3) := by decide +kernel
theorem dX0_clearBelow_57 : decode cX0_clearBelow 57 = .ok (.iload_n 3, 1) := by decide +kernel
theorem dX0_clearBelow_58 : decode cX0_clearBelow 58 = .ok (.aload_n 0, 1) := by decide +kernel
theorem dX0_clearBelow_59 : decode cX0_clearBelow 59 = .ok (.getfield 11, 3) := by decide +kernel
theorem dX0_clearBelow_62 : decode cX0_clearBelow 62 = .ok (.iload 4, 2) := by decide +kernel
theorem dX0_clearBelow_64 : decode cX0_clearBelow 64 = .ok (.bipush 20, 2) := by decide +kernel
theorem dX0_clearBelow_66 : decode cX0_clearBelow 66 = .ok (.imul, 1) := by decide +kernel
theorem dX0_clearBelow_67 : decode cX0_clearBelow 67 = .ok (.iload 6, 2) := by decide +kernel
theorem dX0_clearBelow_69 : decode cX0_clearBelow 69 = .ok (.iadd, 1) := by decide +kernel
theorem dX0_clearBelow_70 : decode cX0_clearBelow 70 = .ok (.iaload, 1) := by decide +kernel
theorem dX0_clearBelow_71 : decode cX0_clearBelow 71 = .ok (.imul, 1) := by decide +kernel
theorem dX0_clearBelow_72 : decode cX0_clearBelow 72 = .ok (.iload 5, 2) := by decide +kernel
theorem dX0_clearBelow_74 : decode cX0_clearBelow 74 = .ok (.aload_n 0, 1) := by decide +kernel
theorem dX0_clearBelow_75 : decode cX0_clearBelow 75 = .ok (.getfield 11, 3) := by decide +kernel
theorem dX0_clearBelow_78 : decode cX0_clearBelow 78 = .ok (.iload_n 1, 1) := by decide +kernel
theorem dX0_clearBelow_79 : decode cX0_clearBelow 79 = .ok (.bipush 20, 2) := by decide +kernel
theorem dX0_clearBelow_81 : decode cX0_clearBelow 81 = .ok (.imul, 1) := by decide +kernel
theorem dX0_clearBelow_82 : decode cX0_clearBelow 82 = .ok (.iload 6, 2) := by decide +kernel
theorem dX0_clearBelow_84 : decode cX0_clearBelow 84 = .ok (.iadd, 1) := by decide +kernel
theorem dX0_clearBelow_85 : decode cX0_clearBelow 85 = .ok (.iaload, 1) := by decide +kernel
theorem dX0_clearBelow_86 : decode cX0_clearBelow 86 = .ok (.imul, 1) := by decide +kernel
theorem dX0_clearBelow_87 : decode cX0_clearBelow 87 = .ok (.isub, 1) := by decide +kernel
theorem dX0_clearBelow_88 : decode cX0_clearBelow 88 = .ok (.istore 7, 2) := by decide +kernel
theorem dX0_clearBelow_90 : decode cX0_clearBelow 90 = .ok (.aload_n 0, 1) := by decide +kernel
theorem dX0_clearBelow_91 : decode cX0_clearBelow 91 = .ok (.getfield 11, 3) := by decide +kernel
theorem dX0_clearBelow_94 : decode cX0_clearBelow 94 = .ok (.iload 4, 2) := by decide +kernel
theorem dX0_clearBelow_96 : decode cX0_clearBelow 96 = .ok (.bipush 20, 2) := by decide +kernel
theorem dX0_clearBelow_98 : decode cX0_clearBelow 98 = .ok (.imul, 1) := by decide +kernel
theorem dX0_clearBelow_99 : decode cX0_clearBelow 99 = .ok (.iload 6, 2) := by decide +kernel
theorem dX0_clearBelow_101 : decode cX0_clearBelow 101 = .ok (.iadd, 1) := by decide +kernel
theorem dX0_clearBelow_102 : decode cX0_clearBelow 102 = .ok (.iload 7, 2) := by decide +kernel
theorem dX0_clearBelow_104 : decode cX0_clearBelow 104 = .ok (.aload_n 0, 1) := by decide +kernel
theorem dX0_clearBelow_105 : decode cX0_clearBelow 105 = .ok (.getfield 15, 3) := by decide +kernel
theorem dX0_clearBelow_108 : decode cX0_clearBelow 108 = .ok (.invokestatic 50, 3) := by decide +kernel
theorem dX0_clearBelow_111 : decode cX0_clearBelow 111 = .ok (.iastore, 1) := by decide +kernel
theorem dX0_clearBelow_112 : decode cX0_clearBelow 112 = .ok (.iinc 6 1, 3) := by decide +kernel
theorem dX0_clearBelow_115 : decode cX0_clearBelow 115 = .ok (.goto (-67), 3) := by decide +kernel
theorem dX0_clearBelow_118 : decode cX0_clearBelow 118 = .ok (.iinc 4 1, 3) := by decide +kernel
theorem dX0_clearBelow_121 : decode cX0_clearBelow 121 = .ok (.goto (-104), 3) := by decide +kernel
theorem dX0_clearBelow_124 : decode cX0_clearBelow 124 = .ok (.return_, 1) := by decide +kernel
theorem dX0_putNumber_0 : decode cX0_putNumber 0 = .ok (.iload_n 1, 1) := by decide +kernel
theorem dX0_putNumber_1 : decode cX0_putNumber 1 = .ok (.ifCond .lt 35, 3) := by decide +kernel
theorem dX0_putNumber_4 : decode cX0_putNumber 4 = .ok (.iload_n 1, 1) := by decide +kernel
theorem dX0_putNumber_5 : decode cX0_putNumber 5 = .ok (.aload_n 0, 1) := by decide +kernel
theorem dX0_putNumber_6 : decode cX0_putNumber 6 = .ok (.getfield 31, 3) := by decide +kernel
theorem dX0_putNumber_9 : decode cX0_putNumber 9 = .ok (.if_icmp .ge 27, 3) := by decide +kernel
theorem dX0_putNumber_12 : decode cX0_putNumber 12 = .ok (.iload_n 2, 1) := by decide +kernel
theorem dX0_putNumber_13 : decode cX0_putNumber 13 = .ok (.ifCond .lt 23, 3) := by decide +kernel
theorem dX0_putNumber_16 : decode cX0_putNumber 16 = .ok (.iload_n 2, 1) := by decide +kernel
theorem dX0_putNumber_17 : decode cX0_putNumber 17 = .ok (.aload_n 0, 1) := by decide +kernel
theorem dX0_putNumber_18 : decode cX0_putNumber 18 = .ok (.getfield 37, 3) := by decide +kernel
theorem dX0_putNumber_21 : decode cX0_putNumber 21 = .ok (.if_icmp .ge 15, 3) := by decide +kernel
theorem dX0_putNumber_24 : decode cX0_putNumber 24 = .ok (.aload_n 0, 1) := by decide +kernel
theorem dX0_putNumber_25 : decode cX0_putNumber 25 = .ok (.getfield 11, 3) := by decide +kernel
theorem dX0_putNumber_28 : decode cX0_putNumber 28 = .ok (.iload_n 1, 1) := by decide +kernel
theorem dX0_putNumber_29 : decode cX0_putNumber 29 = .ok (.bipush 20, 2) := by decide +kernel
theorem dX0_putNumber_31 : decode cX0_putNumber 31 = .ok (.imul, 1) := by decide +kernel
theorem dX0_putNumber_32 : decode cX0_putNumber 32 = .ok (.iload_n 2, 1) := by decide +kernel
theorem dX0_putNumber_33 : decode cX0_putNumber 33 = .ok (.iadd, 1) := by decide +kernel
theorem dX0_putNumber_34 : decode cX0_putNumber 34 = .ok (.iload_n 3, 1) := by decide +kernel
theorem dX0_putNumber_35 : decode cX0_putNumber 35 = .ok (.iastore, 1) := by decide +kernel
theorem dX0_putNumber_36 : decode cX0_putNumber 36 = .ok (.return_, 1) := by decide +kernel
end
section
theorem dX1_init_0 : decode cX1_init 0 = .ok (.aload_n 0, 1) := by decide +kernel
theorem dX1_init_1 : decode cX1_init 1 = .ok (.invokespecial 3, 3) := by decide +kernel
theorem dX1_init_4 : decode cX1_init 4 = .ok (.aload_n 0, 1) := by decide +kernel
theorem dX1_init_5 : decode cX1_init 5 = .ok (.bipush 32, 2) := by decide +kernel
theorem dX1_init_7 : decode cX1_init 7 = .ok (.newarray .int, 2) := by decide +kernel
theorem dX1_init_9 : decode cX1_init 9 = .ok (.putfield 11, 3) := by decide +kernel
theorem dX1_init_12 : decode cX1_init 12 = .ok (.aload_n 0, 1) := by decide +kernel
theorem dX1_init_13 : decode cX1_init 13 = .ok (.bipush 7, 2) := by decide +kernel
theorem dX1_init_15 : decode cX1_init 15 = .ok (.putfield 15, 3) := by decide +kernel
theorem dX1_init_18 : decode cX1_init 18 = .ok (.return_, 1) := by decide +kernel
theorem dX1_makeEmpty_0 : decode cX1_makeEmpty 0 = .ok (.aload_n 0, 1) := by decide +kernel
theorem dX1_makeEmpty_1 : decode cX1_makeEmpty 1 = .ok (.getfield 11, 3) := by decide +kernel
theorem dX1_makeEmpty_4 : decode cX1_makeEmpty 4 = .ok (.iconst 0, 1) := by decide +kernel
theorem dX1_makeEmpty_5 : decode cX1_makeEmpty 5 = .ok (.invokestatic 19, 3) := by decide +kernel
theorem dX1_makeEmpty_8 : decode cX1_makeEmpty 8 = .ok (.aload_n 0, 1) := by decide +kernel
theorem dX1_makeEmpty_9 : decode cX1_makeEmpty 9 = .ok (.bipush 7, 2) := by decide +kernel
theorem dX1_makeEmpty_11 : decode cX1_makeEmpty 11 = .ok (.putfield 15, 3) := by decide +kernel
theorem dX1_makeEmpty_14 : decode cX1_makeEmpty 14 = .ok (.aload_n 0, 1) := by decide +kernel
theorem dX1_makeEmpty_15 : decode cX1_makeEmpty 15 = .ok (.iconst 0, 1) := by decide +kernel
theorem dX1_makeEmpty_16 : decode cX1_makeEmpty 16 = .ok (.putfield 25, 3) := by decide +kernel
theorem dX1_makeEmpty_19 : decode cX1_makeEmpty 19 = .ok (.aload_n 0, 1) := by decide +kernel
theorem dX1_makeEmpty_20 : decode cX1_makeEmpty 20 = .ok (.iconst 0, 1) := by decide +kernel
theorem dX1_makeEmpty_21 : decode cX1_makeEmpty 21 = .ok (.putfield 28, 3) := by decide +kernel
theorem dX1_makeEmpty_24 : decode cX1_makeEmpty 24 = .ok (.return_, 1) := by decide +kernel
theorem dX1_takeFrom_0 : decode cX1_takeFrom 0 = .ok (.aload_n 1, 1) := by decide +kernel
theorem dX1_takeFrom_1 : decode cX1_takeFrom 1 = .ok (.getfield 11, 3) := by decide +kernel
theorem dX1_takeFrom_4 : decode cX1_takeFrom 4 = .ok (.iconst 0, 1) := by decide +kernel
theorem dX1_takeFrom_5 : decode cX1_takeFrom 5 = .ok (.aload_n 0, 1) := by decide +kernel
theorem dX1_takeFrom_6 : decode cX1_takeFrom 6 = .ok (.getfield 11, 3) := by decide +kernel
theorem dX1_takeFrom_9 : decode cX1_takeFrom 9 = .ok (.iconst 0, 1) := by decide +kernel
theorem dX1_takeFrom_10 : decode cX1_takeFrom 10 = .ok (.bipush 32, 2) := by decide +kernel
theorem dX1_takeFrom_12 : decode cX1_takeFrom 12 = .ok (.invokestatic 31, 3) := by decide +kernel
theorem dX1_takeFrom_15 : decode cX1_takeFrom 15 = .ok (.aload_n 0, 1) := by decide +kernel
theorem dX1_takeFrom_16 : decode cX1_takeFrom 16 = .ok (.aload_n 1, 1) := by decide +kernel
theorem dX1_takeFrom_17 : decode cX1_takeFrom 17 = .ok (.getfield 15, 3) := by decide +kernel
theorem dX1_takeFrom_20 : decode cX1_takeFrom 20 = .ok (.putfield 15, 3) := by decide +kernel
theorem dX1_takeFrom_23 : decode cX1_takeFrom 23 = .ok (.aload_n 0, 1) := by decide +kernel
theorem dX1_takeFrom_24 : decode cX1_takeFrom 24 = .ok (.aload_n 1, 1) := by decide +kernel
theorem dX1_takeFrom_25 : decode cX1_takeFrom 25 = .ok (.getfield 25, 3) := by decide +kernel
theorem dX1_takeFrom_28 : decode cX1_takeFrom 28 = .ok (.putfield 25, 3) := by decide +kernel
theorem dX1_takeFrom_31 : decode cX1_takeFrom 31 = .ok (.aload_n 0, 1) := by decide +kernel
theorem dX1_takeFrom_32 : decode cX1_takeFrom 32 = .ok (.aload_n 1, 1) := by decide +kernel
theorem dX1_takeFrom_33 : decode cX1_takeFrom 33 = .ok (.getfield 28, 3) := by decide +kernel
theorem dX1_takeFrom_36 : decode cX1_takeFrom 36 = .ok (.putfield 28, 3) := by decide +kernel
theorem dX1_takeFrom_39 : decode cX1_takeFrom 39 = .ok (.return_, 1) := by decide +kernel
theorem dX1_shape_0 : decode cX1_shape 0 = .ok (.bipush 10, 2) := by decide +kernel
theorem dX1_shape_2 : decode cX1_shape 2 = .ok (.aload_n 0, 1) := by decide +kernel
theorem dX1_shape_3 : decode cX1_shape 3 = .ok (.getfield 25, 3) := by decide +kernel
theorem dX1_shape_6 : decode cX1_shape 6 = .ok (.imul, 1) := by decide +kernel
theorem dX1_shape_7 : decode cX1_shape 7 = .ok (.aload_n 0, 1) := by decide +kernel
theorem dX1_shape_8 : decode cX1_shape 8 = .ok (.getfield 28, 3) := by decide +kernel
theorem dX1_shape_11 : decode cX1_shape 11 = .ok (.iadd, 1) := by decide +kernel
theorem dX1_shape_12 : decode cX1_shape 12 = .ok (.ireturn, 1) := by decide +kernel
theorem dX1_linesOf_0 : decode cX1_linesOf 0 = .ok (.iload_n 1, 1) := by decide +kernel
theorem dX1_linesOf_1 : decode cX1_linesOf 1 = .ok (.ifCond .ne 10, 3) := by decide +kernel
theorem dX1_linesOf_4 : decode cX1_linesOf 4 = .ok (.aload_n 0, 1) := by decide +kernel
theorem dX1_linesOf_5 : decode cX1_linesOf 5 = .ok (.getfield 25, 3) := by decide +kernel
theorem dX1_linesOf_8 : decode cX1_linesOf 8 = .ok (.goto 7, 3) := by decide +kernel
theorem dX1_linesOf_11 : decode cX1_linesOf 11 = .ok (.aload_n 0, 1) := by decide +kernel
theorem dX1_linesOf_12 : decode cX1_linesOf 12 = .ok (.getfield 28, 3) := by decide +kernel
theorem dX1_linesOf_15 : decode cX1_linesOf 15 = .ok (.ireturn, 1) := by decide +kernel
theorem dX1_hasLine_0 : decode cX1_hasLine 0 = .ok (.iload_n 1, 1) := by decide +kernel
theorem dX1_hasLine_1 : decode cX1_hasLine 1 = .ok (.invokestatic 37, 3) := by decide +kernel
theorem dX1_hasLine_4 : decode cX1_hasLine 4 = .ok (.ifCond .eq 20, 3) := by decide +kernel
theorem dX1_hasLine_7 : decode cX1_hasLine 7 = .ok (.iload_n 2, 1) := by decide +kernel
theorem dX1_hasLine_8 : decode cX1_hasLine 8 = .ok (.ifCond .lt 16, 3) := by decide +kernel
theorem dX1_hasLine_11 : decode cX1_hasLine 11 = .ok (.iload_n 2, 1) := by decide +kernel
theorem dX1_hasLine_12 : decode cX1_hasLine 12 = .ok (.aload_n 0, 1) := by decide +kernel
theorem dX1_hasLine_13 : decode cX1_hasLine 13 = .ok (.iload_n 1, 1) := by decide +kernel
theorem dX1_hasLine_14 : decode cX1_hasLine 14 = .ok (.invokevirtual 41, 3) := by decide +kernel
theorem dX1_hasLine_17 : decode cX1_hasLine 17 = .ok (.if_icmp .ge 7, 3) := by decide +kernel
theorem dX1_hasLine_20 : decode cX1_hasLine 20 = .ok (.iconst 1, 1) := by decide +kernel
theorem dX1_hasLine_21 : decode cX1_hasLine 21 = .ok (.goto 4, 3) := by decide +kernel
theorem dX1_hasLine_24 : decode cX1_hasLine 24 = .ok (.iconst 0, 1) := by decide +kernel
theorem dX1_hasLine_25 : decode cX1_hasLine 25 = .ok (.ireturn, 1) := by decide +kernel
theorem dX1_hasPlace_0 : decode cX1_hasPlace 0 = .ok (.iload_n 1, 1) := by decide +kernel
theorem dX1_hasPlace_1 : decode cX1_hasPlace 1 = .ok (.ifCond .lt 36, 3) := by decide +kernel
theorem dX1_hasPlace_4 : decode cX1_hasPlace 4 = .ok (.iload_n 1, 1) := by decide +kernel
theorem dX1_hasPlace_5 : decode cX1_hasPlace 5 = .ok (.iconst 2, 1) := by decide +kernel
theorem dX1_hasPlace_6 : decode cX1_hasPlace 6 = .ok (.if_icmp .ge 31, 3) := by decide +kernel
theorem dX1_hasPlace_9 : decode cX1_hasPlace 9 = .ok (.iload_n 2, 1) := by decide +kernel
theorem dX1_hasPlace_10 : decode cX1_hasPlace 10 = .ok (.ifCond .lt 27, 3) := by decide +kernel
theorem dX1_hasPlace_13 : decode cX1_hasPlace 13 = .ok (.iload_n 2, 1) := by decide +kernel
theorem dX1_hasPlace_14 : decode cX1_hasPlace 14 = .ok (.aload_n 0, 1) := by decide +kernel
theorem dX1_hasPlace_15 : decode cX1_hasPlace 15 = .ok (.getfield 25, 3) := by decide +kernel
theorem dX1_hasPlace_18 : decode cX1_hasPlace 18 = .ok (.if_icmp .ge 19, 3) := by decide +kernel
theorem dX1_hasPlace_21 : decode cX1_hasPlace 21 = .ok (.iload_n 3, 1) := by decide +kernel
theorem dX1_hasPlace_22 : decode cX1_hasPlace 22 = .ok (.ifCond .lt 15, 3) := by decide +kernel
theorem dX1_hasPlace_25 : decode cX1_hasPlace 25 = .ok (.iload_n 3, 1) := by decide +kernel
theorem dX1_hasPlace_26 : decode cX1_hasPlace 26 = .ok (.aload_n 0, 1) := by decide +kernel
theorem dX1_hasPlace_27 : decode cX1_hasPlace 27 = .ok (.getfield 28, 3) := by decide +kernel
theorem dX1_hasPlace_30 : decode cX1_hasPlace 30 = .ok (.if_icmp .ge 7, 3) := by decide +kernel
theorem dX1_hasPlace_33 : decode cX1_hasPlace 33 = .ok (.iconst 1, 1) := by decide +kernel
theorem dX1_hasPlace_34 : decode cX1_hasPlace 34 = .ok (.goto 4, 3) := by decide +kernel
theorem dX1_hasPlace_37 : decode cX1_hasPlace 37 = .ok (.iconst 0, 1) := by decide +kernel
theorem dX1_hasPlace_38 : decode cX1_hasPlace 38 = .ok (.ireturn, 1) := by decide +kernel
theorem dX1_valueAt_0 : decode cX1_valueAt 0 = .ok (.aload_n 0, 1) := by decide +kernel
theorem dX1_valueAt_1 : decode cX1_valueAt 1 = .ok (.iload_n 1, 1) := by decide +kernel
theorem dX1_valueAt_2 : decode cX1_valueAt 2 = .ok (.iload_n 2, 1) := by decide +kernel
theorem dX1_valueAt_3 : decode cX1_valueAt 3 = .ok (.iload_n 3, 1) := by decide +kernel
theorem dX1_valueAt_4 : decode cX1_valueAt 4 = .ok (.invokevirtual 45, 3) := by decide +kernel
theorem dX1_valueAt_7 : decode cX1_valueAt 7 = .ok (.ifCond .eq 17, 3) := by decide +kernel
theorem dX1_valueAt_10 : decode cX1_valueAt 10 = .ok (.aload_n 0, 1) := by decide +kernel
theorem dX1_valueAt_11 : decode cX1_valueAt 11 = .ok (.getfield 11, 3) := by decide +kernel
theorem dX1_valueAt_14 : decode cX1_valueAt 14 = .ok (.iload_n 1, 1) := by decide +kernel
theorem dX1_valueAt_15 : decode cX1_valueAt 15 = .ok (.iload_n 2, 1) := by decide +kernel
theorem dX1_valueAt_16 : decode cX1_valueAt 16 = .ok (.iload_n 3, 1) := by decide +kernel
theorem dX1_valueAt_17 : decode cX1_valueAt 17 = .ok (.invokestatic 49, 3) := by decide +kernel
theorem dX1_valueAt_20 : decode cX1_valueAt 20 = .ok (.iaload, 1) := by decide +kernel
theorem dX1_valueAt_21 : decode cX1_valueAt 21 = .ok (.goto 4, 3) := by decide +kernel
theorem dX1_valueAt_24 : decode cX1_valueAt 24 = .ok (.iconst 0, 1) := by decide +kernel
theorem dX1_valueAt_25 : decode cX1_valueAt 25 = .ok (.ireturn, 1) := by decide +kernel
theorem dX1_putValue_0 : decode cX1_putValue 0 = .ok (.aload_n 0, 1) := by decide +kernel
theorem dX1_putValue_1 : decode cX1_putValue 1 = .ok (.iload_n 1, 1) := by decide +kernel
theorem dX1_putValue_2 : decode cX1_putValue 2 = .ok (.iload_n 2, 1) := by decide +kernel
theorem dX1_putValue_3 : decode cX1_putValue 3 = .ok (.iload_n 3, 1) := by decide +kernel
theorem dX1_putValue_4 : decode cX1_putValue 4 = .ok (.invokevirtual 45, 3) := by decide +kernel
theorem dX1_putValue_7 : decode cX1_putValue 7 = .ok (.ifCond .eq 16, 3) := by decide +kernel
theorem dX1_putValue_10 : decode cX1_putValue 10 = .ok (.aload_n 0, 1) := by decide +kernel
theorem dX1_putValue_11 : decode cX1_putValue 11 = .ok (.getfield 11, 3) := by decide +kernel
theorem dX1_putValue_14 : decode cX1_putValue 14 = .ok (.iload_n 1, 1) := by decide +kernel
theorem dX1_putValue_15 : decode cX1_putValue 15 = .ok (.iload_n 2, 1) := by decide +kernel
theorem dX1_putValue_16 : decode cX1_putValue 16 = .ok (.iload_n 3, 1) := by decide +kernel
theorem dX1_putValue_17 : decode cX1_putValue 17 = .ok (.invokestatic 49, 3) := by decide +kernel
theorem dX1_putValue_20 : decode cX1_putValue 20 = .ok (.iload 4, 2) := by decide +kernel
theorem dX1_putValue_22 : decode cX1_putValue 22 = .ok (.iastore, 1) := by decide +kernel
theorem dX1_putValue_23 : decode cX1_putValue 23 = .ok (.return_, 1) := by decide +kernel
theorem dX1_addLine_0 : decode cX1_addLine 0 = .ok (.iload_n 1, 1) := by decide +kernel
theorem dX1_addLine_1 : decode cX1_addLine 1 = .ok (.ifCond .ne 20, 3) := by decide +kernel
theorem dX1_addLine_4 : decode cX1_addLine 4 = .ok (.aload_n 0, 1) := by decide +kernel
theorem dX1_addLine_5 : decode cX1_addLine 5 = .ok (.aload_n 0, 1) := by decide +kernel
theorem dX1_addLine_6 : decode cX1_addLine 6 = .ok (.getfield 25, 3) := by decide +kernel
theorem dX1_addLine_9 : decode cX1_addLine 9 = .ok (.iconst 1, 1) := by decide +kernel
theorem dX1_addLine_10 : decode cX1_addLine 10 = .ok (.iadd, 1) := by decide +kernel
theorem dX1_addLine_11 : decode cX1_addLine 11 = .ok (.aload_n 0, 1) := by decide +kernel
theorem dX1_addLine_12 : decode cX1_addLine 12 = .ok (.getfield 28, 3) := by decide +kernel
theorem dX1_addLine_15 : decode cX1_addLine 15 = .ok (.invokevirtual 53, 3) := by decide +kernel
theorem dX1_addLine_18 : decode cX1_addLine 18 = .ok (.goto 17, 3) := by decide +kernel
theorem dX1_addLine_21 : decode cX1_addLine 21 = .ok (.aload_n 0, 1) := by decide +kernel
theorem dX1_addLine_22 : decode cX1_addLine 22 = .ok (.aload_n 0, 1) := by decide +kernel
theorem dX1_addLine_23 : decode cX1_addLine 23 = .ok (.getfield 25, 3) := by decide +kernel
theorem dX1_addLine_26 : decode cX1_addLine 26 = .ok (.aload_n 0, 1) := by decide +kernel
theorem dX1_addLine_27 : decode cX1_addLine 27 = .ok (.getfield 28, 3) := by decide +kernel
theorem dX1_addLine_30 : decode cX1_addLine 30 = .ok (.iconst 1, 1) := by decide +kernel
theorem dX1_addLine_31 : decode cX1_addLine 31 = .ok (.iadd, 1) := by decide +kernel
theorem dX1_addLine_32 : decode cX1_addLine 32 = .ok (.invokevirtual 53, 3) := by decide +kernel
theorem dX1_addLine_35 : decode cX1_addLine 35 = .ok (.return_, 1) := by decide +kernel
theorem dX1_growTo_0 : decode cX1_growTo 0 = .ok (.aload_n 0, 1) := by decide +kernel
theorem dX1_growTo_1 : decode cX1_growTo 1 = .ok (.iload_n 1, 1) := by decide +kernel
theorem dX1_growTo_2 : decode cX1_growTo 2 = .ok (.iconst 4, 1) := by decide +kernel
theorem dX1_growTo_3 : decode cX1_growTo 3 = .ok (.invokestatic 57, 3) := by decide +kernel
theorem dX1_growTo_6 : decode cX1_growTo 6 = .ok (.putfield 25, 3) := by decide +kernel
theorem dX1_growTo_9 : decode cX1_growTo 9 = .ok (.aload_n 0, 1) := by decide +kernel
theorem dX1_growTo_10 : decode cX1_growTo 10 = .ok (.iload_n 2, 1) := by decide +kernel
theorem dX1_growTo_11 : decode cX1_growTo 11 = .ok (.iconst 4, 1) := by decide +kernel
theorem dX1_growTo_12 : decode cX1_growTo 12 = .ok (.invokestatic 57, 3) := by decide +kernel
theorem dX1_growTo_15 : decode cX1_growTo 15 = .ok (.putfield 28, 3) := by decide +kernel
theorem dX1_growTo_18 : decode cX1_growTo 18 = .ok (.return_, 1) := by decide +kernel
theorem dX1_shrinkTo_0 : decode cX1_shrinkTo 0 = .ok (.iconst 0, 1) := by decide +kernel
theorem dX1_shrinkTo_1 : decode cX1_shrinkTo 1 = .ok (.istore_n 3, 1) := by decide +kernel
theorem dX1_shrinkTo_2 : decode cX1_shrinkTo 2 = .ok (.iload_n 3, 1) := by decide +kernel
theorem dX1_shrinkTo_3 : decode cX1_shrinkTo 3 = .ok (.iconst 2, 1) := by decide +kernel
theorem dX1_shrinkTo_4 : decode cX1_shrinkTo 4 = .ok (.if_icmp .ge 67, 3) := by decide +kernel
theorem dX1_shrinkTo_7 : decode cX1_shrinkTo 7 = .ok (.iconst 0, 1) := by decide +kernel
theorem dX1_shrinkTo_8 : decode cX1_shrinkTo 8 = .ok (.istore 4, 2) := by decide +kernel
theorem dX1_shrinkTo_10 : decode cX1_shrinkTo 10 = .ok (.iload 4, 2) := by decide +kernel
theorem dX1_shrinkTo_12 : decode cX1_shrinkTo 12 = .ok (.aload_n 0, 1) := by decide +kernel
theorem dX1_shrinkTo_13 : decode cX1_shrinkTo 13 = .ok (.getfield 25, 3) := by decide +kernel
theorem dX1_shrinkTo_16 : decode cX1_shrinkTo 16 = .ok (.if_icmp .ge 49, 3) := by decide +kernel
theorem dX1_shrinkTo_19 : decode cX1_shrinkTo 19 = .ok (.iconst 0, 1) := by decide +kernel
theorem dX1_shrinkTo_20 : decode cX1_shrinkTo 20 = .ok (.istore 5, 2) := by decide +kernel
theorem dX1_shrinkTo_22 : decode cX1_shrinkTo 22 = .ok (.iload 5, 2) := by decide +kernel
theorem dX1_shrinkTo_24 : decode cX1_shrinkTo 24 = .ok (.aload_n 0, 1) := by decide +kernel
theorem dX1_shrinkTo_25 : decode cX1_shrinkTo 25 = .ok (.getfield 28, 3) := by decide +kernel
theorem dX1_shrinkTo_28 : decode cX1_shrinkTo 28 = .ok (.if_icmp .ge 31, 3) := by decide +kernel
theorem dX1_shrinkTo_31 : decode cX1_shrinkTo 31 = .ok (.iload 4, 2) := by decide +kernel
theorem dX1_shrinkTo_33 : decode cX1_shrinkTo 33 = .ok (.iload_n 1, 1) := by decide +kernel
theorem dX1_shrinkTo_34 : decode cX1_shrinkTo 34 = .ok (.if_icmp .ge 9, 3) := by decide +kernel
theorem dX1_shrinkTo_37 : decode cX1_shrinkTo 37 = .ok (.iload 5, 2) := by decide +kernel
theorem dX1_shrinkTo_39 : decode cX1_shrinkTo 39 = .ok (.iload_n 2, 1) := by decide +kernel
theorem dX1_shrinkTo_40 : decode cX1_shrinkTo 40 = .ok (.if_icmp .lt 13, 3) := by decide +kernel
theorem dX1_shrinkTo_43 : decode cX1_shrinkTo 43 = .ok (.aload_n 0, 1) := by decide +kernel
theorem dX1_shrinkTo_44 : decode cX1_shrinkTo 44 = .ok (.iload_n 3, 1) := by decide +kernel
theorem dX1_shrinkTo_45 : decode cX1_shrinkTo 45 = .ok (.iload 4, 2) := by decide +kernel
theorem dX1_shrinkTo_47 : decode cX1_shrinkTo 47 = .ok (.iload 5, 2) := by decide +kernel
theorem dX1_shrinkTo_49 : decode cX1_shrinkTo 49 = .ok (.iconst 0, 1) := by decide +kernel
theorem dX1_shrinkTo_50 : decode cX1_shrinkTo 50 = .ok (.invokevirtual 63, 3) := by decide +kernel
theorem dX1_shrinkTo_53 : decode cX1_shrinkTo 53 = .ok (.iinc 5 1, 3) := by decide +kernel
theorem dX1_shrinkTo_56 : decode cX1_shrinkTo 56 = .ok (.goto (-34), 3) := by decide +kernel
theorem dX1_shrinkTo_59 : decode cX1_shrinkTo 59 = .ok (.iinc 4 1, 3) := by decide +kernel
theorem dX1_shrinkTo_62 : decode cX1_shrinkTo 62 = .ok (.goto (-52), 3) := by decide +kernel
theorem dX1_shrinkTo_65 : decode cX1_shrinkTo 65 = .ok (.iinc 3 1, 3) := by decide +kernel
theorem dX1_shrinkTo_68 : decode cX1_shrinkTo 68 = .ok (.goto (-66), 3) := by decide +kernel
theorem dX1_shrinkTo_71 : decode cX1_shrinkTo 71 = .ok (.aload_n 0, 1) := by decide +kernel
theorem dX1_shrinkTo_72 : decode cX1_shrinkTo 72 = .ok (.iload_n 1, 1) := by decide +kernel
theorem dX1_shrinkTo_73 : decode cX1_shrinkTo 73 = .ok (.putfield 25, 3) := by decide +kernel
theorem dX1_shrinkTo_76 : decode cX1_shrinkTo 76 = .ok (.aload_n 0, 1) := by decide +kernel
theorem dX1_shrinkTo_77 : decode cX1_shrinkTo 77 = .ok (.iload_n 2, 1) := by decide +kernel
theorem dX1_shrinkTo_78 : decode cX1_shrinkTo 78 = .ok (.putfield 28, 3) := by decide +kernel
theorem dX1_shrinkTo_81 : decode cX1_shrinkTo 81 = .ok (.return_, 1) := by decide +kernel
theorem dX1_mixLines_0 : decode cX1_mixLines 0 = .ok (.iconst 0, 1) := by decide +kernel
theorem dX1_mixLines_1 : decode cX1_mixLines 1 = .ok (.istore 5, 2) := by decide +kernel
theorem dX1_mixLines_3 : decode cX1_mixLines 3 = .ok (.iload 5, 2) := by decide +kernel
theorem dX1_mixLines_5 : decode cX1_mixLines 5 = .ok (.iconst 2, 1) := by decide +kernel
theorem dX1_mixLines_6 : decode cX1_mixLines 6 = .ok (.if_icmp .ge 75, 3) := by decide +kernel
theorem dX1_mixLines_9 : decode cX1_mixLines 9 = .ok (.iconst 0, 1) := by decide +kernel
theorem dX1_mixLines_10 : decode cX1_mixLines 10 = .ok (.istore 6, 2) := by decide +kernel
theorem dX1_mixLines_12 : decode cX1_mixLines 12 = .ok (.iload 6, 2) := by decide +kernel
theorem dX1_mixLines_14 : decode cX1_mixLines 14 = .ok (.aload_n 0, 1) := by decide +kernel
theorem dX1_mixLines_15 : decode cX1_mixLines 15 = .ok (.iconst 1, 1) := by decide +kernel
theorem dX1_mixLines_16 : decode cX1_mixLines 16 = .ok (.iload_n 1, 1) := by decide +kernel
theorem dX1_mixLines_17 : decode cX1_mixLines 17 = .ok (.isub, 1) := by decide +kernel
theorem dX1_mixLines_18 : decode cX1_mixLines 18 = .ok (.invokevirtual 41, 3) := by decide +kernel
theorem dX1_mixLines_21 : decode cX1_mixLines 21 = .ok (.if_icmp .ge 54, 3) := by decide +kernel
theorem dX1_mixLines_24 : decode cX1_mixLines 24 = .ok (.aload_n 0, 1) := by decide +kernel
theorem dX1_mixLines_25 : decode cX1_mixLines 25 = .ok (.iload 5, 2) := by decide +kernel
theorem dX1_mixLines_27 : decode cX1_mixLines 27 = .ok (.iload_n 1, 1) := by decide +kernel
theorem dX1_mixLines_28 : decode cX1_mixLines 28 = .ok (.iload_n 2, 1) := by decide +kernel
theorem dX1_mixLines_29 : decode cX1_mixLines 29 = .ok (.iload 6, 2) := by decide +kernel
theorem dX1_mixLines_31 : decode cX1_mixLines 31 = .ok (.invokevirtual 67, 3) := by decide +kernel
theorem dX1_mixLines_34 : decode cX1_mixLines 34 = .ok (.iload 4, 2) := by decide +kernel
theorem dX1_mixLines_36 : decode cX1_mixLines 36 = .ok (.aload_n 0, 1) := by decide +kernel
theorem dX1_mixLines_37 : decode cX1_mixLines 37 = .ok (.iload 5, 2) := by decide +kernel
theorem dX1_mixLines_39 : decode cX1_mixLines 39 = .ok (.iload_n 1, 1) := by decide +kernel
theorem dX1_mixLines_40 : decode cX1_mixLines 40 = .ok (.iload_n 3, 1) := by decide +kernel
theorem dX1_mixLines_41 : decode cX1_mixLines 41 = .ok (.iload 6, 2) := by decide +kernel
theorem dX1_mixLines_43 : decode cX1_mixLines 43 = .ok (.invokevirtual 67, 3) := by decide +kernel
theorem dX1_mixLines_46 : decode cX1_mixLines 46 = .ok (.imul, 1) := by decide +kernel
theorem dX1_mixLines_47 : decode cX1_mixLines 47 = .ok (.iadd, 1) := by decide +kernel
theorem dX1_mixLines_48 : decode cX1_mixLines 48 = .ok (.istore 7, 2) := by decide +kernel
theorem dX1_mixLines_50 : decode cX1_mixLines 50 = .ok (.aload_n 0, 1) := by decide +kernel
theorem dX1_mixLines_51 : decode cX1_mixLines 51 = .ok (.iload 5, 2) := by decide +kernel
theorem dX1_mixLines_53 : decode cX1_mixLines 53 = .ok (.iload_n 1, 1) := by decide +kernel
theorem dX1_mixLines_54 : decode cX1_mixLines 54 = .ok (.iload_n 2, 1) := by decide +kernel
theorem dX1_mixLines_55 : decode cX1_mixLines 55 = .ok (.iload 6, 2) := by decide +kernel
theorem dX1_mixLines_57 : decode cX1_mixLines 57 = .ok (.iload 7, 2) := by decide +kernel
theorem dX1_mixLines_59 : decode cX1_mixLines 59 = .ok (.aload_n 0, 1) := by decide +kernel
theorem dX1_mixLines_60 : decode cX1_mixLines 60 = .ok (.getfield 15, 3) := by decide +kernel
theorem dX1_mixLines_63 : decode cX1_mixLines 63 = .ok (.invokestatic 71, 3) := by decide +kernel
theorem dX1_mixLines_66 : decode cX1_mixLines 66 = .ok (.invokevirtual 74, 3) := by decide +kernel
theorem dX1_mixLines_69 : decode cX1_mixLines 69 = .ok (.iinc 6 1, 3) := by decide +kernel
theorem dX1_mixLines_72 : decode cX1_mixLines 72 = .ok (.goto (-60), 3) := by decide +kernel
theorem dX1_mixLines_75 : decode cX1_mixLines 75 = .ok (.iinc 5 1, 3) := by decide +kernel
theorem dX1_mixLines_78 : decode cX1_mixLines 78 = .ok (.goto (-75), 3) := by decide +kernel
theorem dX1_mixLines_81 : decode cX1_mixLines 81 = .ok (.return_, 1) := by decide +kernel
theorem dX1_multiplyLine_0 : decode cX1_multiplyLine 0 = .ok (.iconst 0, 1) := by decide +kernel
theorem dX1_multiplyLine_1 : decode cX1_multiplyLine 1 = .ok (.istore 4, 2) := by decide +kernel
theorem dX1_multiplyLine_3 : decode cX1_multiplyLine 3 = .ok (.iload 4, 2) := by decide +kernel
theorem dX1_multiplyLine_5 : decode cX1_multiplyLine 5 = .ok (.iconst 2, 1) := by decide +kernel
theorem dX1_multiplyLine_6 : decode cX1_multiplyLine 6 = .ok (.if_icmp .ge 59, 3) := by decide +kernel
theorem dX1_multiplyLine_9 : decode cX1_multiplyLine 9 = .ok (.iconst 0, 1) := by decide +kernel
theorem dX1_multiplyLine_10 : decode cX1_multiplyLine 10 = .ok (.istore 5, 2) := by decide +kernel
theorem dX1_multiplyLine_12 : decode cX1_multiplyLine 12 = .ok (.iload 5, 2) := by decide +kernel
theorem dX1_multiplyLine_14 : decode cX1_multiplyLine 14 = .ok (.aload_n 0, 1) := by decide +kernel
theorem dX1_multiplyLine_15 : decode cX1_multiplyLine 15 = .ok (.iconst 1, 1) := by decide +kernel
theorem dX1_multiplyLine_16 : decode cX1_multiplyLine 16 = .ok (.iload_n 1, 1) := by decide +kernel
theorem dX1_multiplyLine_17 : decode cX1_multiplyLine 17 = .ok (.isub, 1) := by decide +kernel
theorem dX1_multiplyLine_18 : decode cX1_multiplyLine 18 = .ok (.invokevirtual 41, 3) := by decide +kernel
theorem dX1_multiplyLine_21 : decode cX1_multiplyLine 21 = .ok (.if_icmp .ge 38, 3) := by decide +kernel
theorem dX1_multiplyLine_24 : decode cX1_multiplyLine 24 = .ok (.aload_n 0, 1) := by decide +kernel
theorem dX1_multiplyLine_25 : decode cX1_multiplyLine 25 = .ok (.iload 4, 2) := by decide +kernel
theorem dX1_multiplyLine_27 : decode cX1_multiplyLine 27 = .ok (.iload_n 1, 1) := by decide +kernel
theorem dX1_multiplyLine_28 : decode cX1_multiplyLine 28 = .ok (.iload_n 2, 1) := by decide +kernel
theorem dX1_multiplyLine_29 : decode cX1_multiplyLine 29 = .ok (.iload 5, 2) := by decide +kernel
theorem dX1_multiplyLine_31 : decode cX1_multiplyLine 31 = .ok (.iload_n 3, 1) := by decide +kernel
theorem dX1_multiplyLine_32 : decode cX1_multiplyLine 32 = .ok (.aload_n 0, 1) := by decide +kernel
theorem dX1_multiplyLine_33 : decode cX1_multiplyLine 33 = .ok (.iload 4, 2) := by decide +kernel
theorem dX1_multiplyLine_35 : decode cX1_multiplyLine 35 = .ok (.iload_n 1, 1) := by decide +kernel
theorem dX1_multiplyLine_36 : decode cX1_multiplyLine 36 = .ok (.iload_n 2, 1) := by decide +kernel
theorem dX1_multiplyLine_37 : decode cX1_multiplyLine 37 = .ok (.iload 5, 2) := by decide +kernel
theorem dX1_multiplyLine_39 : decode cX1_multiplyLine 39 = .ok (.invokevirtual 67, 3) := by decide +kernel
theorem dX1_multiplyLine_42 : decode cX1_multiplyLine 42 = .ok (.imul, 1) := by decide +kernel
theorem dX1_multiplyLine_43 : decode cX1_multiplyLine 43 = .ok (.aload_n 0, 1) := by decide +kernel
theorem dX1_multiplyLine_44 : decode cX1_multiplyLine 44 = .ok (.getfield 15, 3) := by decide +kernel
theorem dX1_multiplyLine_47 : decode cX1_multiplyLine 47 = .ok (.invokestatic 71, 3) := by decide +kernel
theorem dX1_multiplyLine_50 : decode cX1_multiplyLine 50 = .ok (.invokevirtual 74, 3) := by decide +kernel
theorem dX1_multiplyLine_53 : decode cX1_multiplyLine 53 = .ok (.iinc 5 1, 3) := by decide +kernel
theorem dX1_multiplyLine_56 : decode cX1_multiplyLine 56 = .ok (.goto (-44), 3) := by decide +kernel
theorem dX1_multiplyLine_59 : decode cX1_multiplyLine 59 = .ok (.iinc 4 1, 3) := by decide +kernel
theorem dX1_multiplyLine_62 : decode cX1_multiplyLine 62 = .ok (.goto (-59), 3) := by decide +kernel
theorem dX1_multiplyLine_65 : decode cX1_multiplyLine 65 = .ok (.return_, 1) := by decide +kernel
theorem dX1_exchangeLines_0 : decode cX1_exchangeLines 0 = .ok (.iconst 0, 1) := by decide +kernel
theorem dX1_exchangeLines_1 : decode cX1_exchangeLines 1 = .ok (.istore 4, 2) := by decide +kernel
theorem dX1_exchangeLines_3 : decode cX1_exchangeLines 3 = .ok (.iload 4, 2) := by decide +kernel
theorem dX1_exchangeLines_5 : decode cX1_exchangeLines 5 = .ok (.iconst 2, 1) := by decide +kernel
theorem dX1_exchangeLines_6 : decode cX1_exchangeLines 6 = .ok (.if_icmp .ge 74, 3) := by decide +kernel
theorem dX1_exchangeLines_9 : decode cX1_exchangeLines 9 = .ok (.iconst 0, 1) := by decide +kernel
theorem dX1_exchangeLines_10 : decode cX1_exchangeLines 10 = .ok (.istore 5, 2) := by decide +kernel
theorem dX1_exchangeLines_12 : decode cX1_exchangeLines 12 = .ok (.iload 5, 2) := by decide +kernel
theorem dX1_exchangeLines_14 : decode cX1_exchangeLines 14 = .ok (.aload_n 0, 1) := by decide +kernel
theorem dX1_exchangeLines_15 : decode cX1_exchangeLines 15 = .ok (.iconst 1, 1) := by decide +kernel
theorem dX1_exchangeLines_16 : decode cX1_exchangeLines 16 = .ok (.iload_n 1, 1) := by decide +kernel
theorem dX1_exchangeLines_17 : decode cX1_exchangeLines 17 = .ok (.isub, 1) := by decide +kernel
theorem dX1_exchangeLines_18 : decode cX1_exchangeLines 18 = .ok (.invokevirtual 41, 3) := by decide +kernel
theorem dX1_exchangeLines_21 : decode cX1_exchangeLines 21 = .ok (.if_icmp .ge 53, 3) := by decide +kernel
theorem dX1_exchangeLines_24 : decode cX1_exchangeLines 24 = .ok (.aload_n 0, 1) := by decide +kernel
theorem dX1_exchangeLines_25 : decode cX1_exchangeLines 25 = .ok (.iload 4, 2) := by decide +kernel
theorem dX1_exchangeLines_27 : decode cX1_exchangeLines 27 = .ok (.iload_n 1, 1) := by decide +kernel
theorem dX1_exchangeLines_28 : decode cX1_exchangeLines 28 = .ok (.iload_n 2, 1) := by decide +kernel
theorem dX1_exchangeLines_29 : decode cX1_exchangeLines 29 = .ok (.iload 5, 2) := by decide +kernel
theorem dX1_exchangeLines_31 : decode cX1_exchangeLines 31 = .ok (.invokevirtual 67, 3) := by decide +kernel
theorem dX1_exchangeLines_34 : decode cX1_exchangeLines 34 = .ok (.istore 6, 2) := by decide +kernel
theorem dX1_exchangeLines_36 : decode cX1_exchangeLines 36 = .ok (.aload_n 0, 1) := by decide +kernel
theorem dX1_exchangeLines_37 : decode cX1_exchangeLines 37 = .ok (.iload 4, 2) := by decide +kernel
theorem dX1_exchangeLines_39 : decode cX1_exchangeLines 39 = .ok (.iload_n 1, 1) := by decide +kernel
theorem dX1_exchangeLines_40 : decode cX1_exchangeLines 40 = .ok (.iload_n 2, 1) := by decide +kernel
theorem dX1_exchangeLines_41 : decode cX1_exchangeLines 41 = .ok (.iload 5, 2) := by decide +kernel
theorem dX1_exchangeLines_43 : decode cX1_exchangeLines 43 = .ok (.aload_n 0, 1) := by decide +kernel
theorem dX1_exchangeLines_44 : decode cX1_exchangeLines 44 = .ok (.iload 4, 2) := by decide +kernel
theorem dX1_exchangeLines_46 : decode cX1_exchangeLines 46 = .ok (.iload_n 1, 1) := by decide +kernel
theorem dX1_exchangeLines_47 : decode cX1_exchangeLines 47 = .ok (.iload_n 3, 1) := by decide +kernel
theorem dX1_exchangeLines_48 : decode cX1_exchangeLines 48 = .ok (.iload 5, 2) := by decide +kernel
theorem dX1_exchangeLines_50 : decode cX1_exchangeLines 50 = .ok (.invokevirtual 67, 3) := by decide +kernel
theorem dX1_exchangeLines_53 : decode cX1_exchangeLines 53 = .ok (.invokevirtual 74, 3) := by decide +kernel
theorem dX1_exchangeLines_56 : decode cX1_exchangeLines 56 = .ok (.aload_n 0, 1) := by decide +kernel
theorem dX1_exchangeLines_57 : decode cX1_exchangeLines 57 = .ok (.iload 4, 2) := by decide +kernel
theorem dX1_exchangeLines_59 : decode cX1_exchangeLines 59 = .ok (.iload_n 1, 1) := by decide +kernel
theorem dX1_exchangeLines_60 : decode cX1_exchangeLines 60 = .ok (.iload_n 3, 1) := by decide +kernel
theorem dX1_exchangeLines_61 : decode cX1_exchangeLines 61 = .ok (.iload 5, 2) := by decide +kernel
theorem dX1_exchangeLines_63 : decode cX1_exchangeLines 63 = .ok (.iload 6, 2) := by decide +kernel
theorem dX1_exchangeLines_65 : decode cX1_exchangeLines 65 = .ok (.invokevirtual 74, 3) := by decide +kernel
theorem dX1_exchangeLines_68 : decode cX1_exchangeLines 68 = .ok (.iinc 5 1, 3) := by decide +kernel
theorem dX1_exchangeLines_71 : decode cX1_exchangeLines 71 = .ok (.goto (-59), 3) := by decide +kernel
theorem dX1_exchangeLines_74 : decode cX1_exchangeLines 74 = .ok (.iinc 4 1, 3) := by decide +kernel
theorem dX1_exchangeLines_77 : decode cX1_exchangeLines 77 = .ok (.goto (-74), 3) := by decide +kernel
theorem dX1_exchangeLines_80 : decode cX1_exchangeLines 80 = .ok (.return_, 1) := by decide +kernel
theorem dX1_exchangeTables_0 : decode cX1_exchangeTables 0 = .ok (.iconst 0, 1) := by decide +kernel
theorem dX1_exchangeTables_1 : decode cX1_exchangeTables 1 = .ok (.istore_n 1, 1) := by decide +kernel
theorem dX1_exchangeTables_2 : decode cX1_exchangeTables 2 = .ok (.iload_n 1, 1) := by decide +kernel
theorem dX1_exchangeTables_3 : decode cX1_exchangeTables 3 = .ok (.bipush 16, 2) := by decide +kernel
theorem dX1_exchangeTables_5 : decode cX1_exchangeTables 5 = .ok (.if_icmp .ge 18, 3) := by decide +kernel
theorem dX1_exchangeTables_8 : decode cX1_exchangeTables 8 = .ok (.aload_n 0, 1) := by decide +kernel
theorem dX1_exchangeTables_9 : decode cX1_exchangeTables 9 = .ok (.iload_n 1, 1) := by decide +kernel
theorem dX1_exchangeTables_10 : decode cX1_exchangeTables 10 = .ok (.bipush 16, 2) := by decide +kernel
theorem dX1_exchangeTables_12 : decode cX1_exchangeTables 12 = .ok (.iload_n 1, 1) := by decide +kernel
theorem dX1_exchangeTables_13 : decode cX1_exchangeTables 13 = .ok (.iadd, 1) := by decide +kernel
theorem dX1_exchangeTables_14 : decode cX1_exchangeTables 14 = .ok (.invokevirtual 78, 3) := by decide +kernel
theorem dX1_exchangeTables_17 : decode cX1_exchangeTables 17 = .ok (.iinc 1 1, 3) := by decide +kernel
theorem dX1_exchangeTables_20 : decode cX1_exchangeTables 20 = .ok (.goto (-18), 3) := by decide +kernel
theorem dX1_exchangeTables_23 : decode cX1_exchangeTables 23 = .ok (.return_, 1) := by decide +kernel
theorem dX1_flip_0 : decode cX1_flip 0 = .ok (.iconst 0, 1) := by decide +kernel
theorem dX1_flip_1 : decode cX1_flip 1 = .ok (.istore_n 1, 1) := by decide +kernel
theorem dX1_flip_2 : decode cX1_flip 2 = .ok (.iload_n 1, 1) := by decide +kernel
theorem dX1_flip_3 : decode cX1_flip 3 = .ok (.iconst 2, 1) := by decide +kernel
theorem dX1_flip_4 : decode cX1_flip 4 = .ok (.if_icmp .ge 51, 3) := by decide +kernel
theorem dX1_flip_7 : decode cX1_flip 7 = .ok (.iconst 0, 1) := by decide +kernel
theorem dX1_flip_8 : decode cX1_flip 8 = .ok (.istore_n 2, 1) := by decide +kernel
theorem dX1_flip_9 : decode cX1_flip 9 = .ok (.iload_n 2, 1) := by decide +kernel
theorem dX1_flip_10 : decode cX1_flip 10 = .ok (.iconst 4, 1) := by decide +kernel
theorem dX1_flip_11 : decode cX1_flip 11 = .ok (.if_icmp .ge 38, 3) := by decide +kernel
theorem dX1_flip_14 : decode cX1_flip 14 = .ok (.iconst 0, 1) := by decide +kernel
theorem dX1_flip_15 : decode cX1_flip 15 = .ok (.istore_n 3, 1) := by decide +kernel
theorem dX1_flip_16 : decode cX1_flip 16 = .ok (.iload_n 3, 1) := by decide +kernel
theorem dX1_flip_17 : decode cX1_flip 17 = .ok (.iload_n 2, 1) := by decide +kernel
theorem dX1_flip_18 : decode cX1_flip 18 = .ok (.if_icmp .ge 25, 3) := by decide +kernel
theorem dX1_flip_21 : decode cX1_flip 21 = .ok (.aload_n 0, 1) := by decide +kernel
theorem dX1_flip_22 : decode cX1_flip 22 = .ok (.iload_n 1, 1) := by decide +kernel
theorem dX1_flip_23 : decode cX1_flip 23 = .ok (.iload_n 2, 1) := by decide +kernel
theorem dX1_flip_24 : decode cX1_flip 24 = .ok (.iload_n 3, 1) := by decide +kernel
theorem dX1_flip_25 : decode cX1_flip 25 = .ok (.invokestatic 49, 3) := by decide +kernel
theorem dX1_flip_28 : decode cX1_flip 28 = .ok (.iload_n 1, 1) := by decide +kernel
theorem dX1_flip_29 : decode cX1_flip 29 = .ok (.iload_n 3, 1) := by decide +kernel
theorem dX1_flip_30 : decode cX1_flip 30 = .ok (.iload_n 2, 1) := by decide +kernel
theorem dX1_flip_31 : decode cX1_flip 31 = .ok (.invokestatic 49, 3) := by decide +kernel
theorem dX1_flip_34 : decode cX1_flip 34 = .ok (.invokevirtual 78, 3) := by decide +kernel
theorem dX1_flip_37 : decode cX1_flip 37 = .ok (.iinc 3 1, 3) := by decide +kernel
theorem dX1_flip_40 : decode cX1_flip 40 = .ok (.goto (-24), 3) := by decide +kernel
theorem dX1_flip_43 : decode cX1_flip 43 = .ok (.iinc 2 1, 3) := by decide +kernel
theorem dX1_flip_46 : decode cX1_flip 46 = .ok (.goto (-37), 3) := by decide +kernel
theorem dX1_flip_49 : decode cX1_flip 49 = .ok (.iinc 1 1, 3) := by decide +kernel
theorem dX1_flip_52 : decode cX1_flip 52 = .ok (.goto (-50), 3) := by decide +kernel
theorem dX1_flip_55 : decode cX1_flip 55 = .ok (.aload_n 0, 1) := by decide +kernel
theorem dX1_flip_56 : decode cX1_flip 56 = .ok (.getfield 25, 3) := by decide +kernel
theorem dX1_flip_59 : decode cX1_flip 59 = .ok (.istore_n 1, 1) := by decide +kernel
theorem dX1_flip_60 : decode cX1_flip 60 = .ok (.aload_n 0, 1) := by decide +kernel
theorem dX1_flip_61 : decode cX1_flip 61 = .ok (.aload_n 0, 1) := by decide +kernel
theorem dX1_flip_62 : decode cX1_flip 62 = .ok (.getfield 28, 3) := by decide +kernel
theorem dX1_flip_65 : decode cX1_flip 65 = .ok (.putfield 25, 3) := by decide +kernel
theorem dX1_flip_68 : decode cX1_flip 68 = .ok (.aload_n 0, 1) := by decide +kernel
theorem dX1_flip_69 : decode cX1_flip 69 = .ok (.iload_n 1, 1) := by decide +kernel
theorem dX1_flip_70 : decode cX1_flip 70 = .ok (.putfield 28, 3) := by decide +kernel
theorem dX1_flip_73 : decode cX1_flip 73 = .ok (.return_, 1) := by decide +kernel
theorem dX1_shift_0 : decode cX1_shift 0 = .ok (.iconst 0, 1) := by decide +kernel
theorem dX1_shift_1 : decode cX1_shift 1 = .ok (.istore_n 1, 1) := by decide +kernel
theorem dX1_shift_2 : decode cX1_shift 2 = .ok (.iload_n 1, 1) := by decide +kernel
theorem dX1_shift_3 : decode cX1_shift 3 = .ok (.bipush 16, 2) := by decide +kernel
theorem dX1_shift_5 : decode cX1_shift 5 = .ok (.if_icmp .ge 38, 3) := by decide +kernel
theorem dX1_shift_8 : decode cX1_shift 8 = .ok (.aload_n 0, 1) := by decide +kernel
theorem dX1_shift_9 : decode cX1_shift 9 = .ok (.getfield 11, 3) := by decide +kernel
theorem dX1_shift_12 : decode cX1_shift 12 = .ok (.iload_n 1, 1) := by decide +kernel
theorem dX1_shift_13 : decode cX1_shift 13 = .ok (.aload_n 0, 1) := by decide +kernel
theorem dX1_shift_14 : decode cX1_shift 14 = .ok (.getfield 11, 3) := by decide +kernel
theorem dX1_shift_17 : decode cX1_shift 17 = .ok (.iload_n 1, 1) := by decide +kernel
theorem dX1_shift_18 : decode cX1_shift 18 = .ok (.iaload, 1) := by decide +kernel
theorem dX1_shift_19 : decode cX1_shift 19 = .ok (.aload_n 0, 1) := by decide +kernel
theorem dX1_shift_20 : decode cX1_shift 20 = .ok (.getfield 11, 3) := by decide +kernel
theorem dX1_shift_23 : decode cX1_shift 23 = .ok (.bipush 16, 2) := by decide +kernel
theorem dX1_shift_25 : decode cX1_shift 25 = .ok (.iload_n 1, 1) := by decide +kernel
theorem dX1_shift_26 : decode cX1_shift 26 = .ok (.iadd, 1) := by decide +kernel
theorem dX1_shift_27 : decode cX1_shift 27 = .ok (.iaload, 1) := by decide +kernel
theorem dX1_shift_28 : decode cX1_shift 28 = .ok (.isub, 1) := by decide +kernel
theorem dX1_shift_29 : decode cX1_shift 29 = .ok (.aload_n 0, 1) := by decide +kernel
theorem dX1_shift_30 : decode cX1_shift 30 = .ok (.getfield 15, 3) := by decide +kernel
theorem dX1_shift_33 : decode cX1_shift 33 = .ok (.invokestatic 71, 3) := by decide +kernel
theorem dX1_shift_36 : decode cX1_shift 36 = .ok (.iastore, 1) := by decide +kernel
theorem dX1_shift_37 : decode cX1_shift 37 = .ok (.iinc 1 1, 3) := by decide +kernel
theorem dX1_shift_40 : decode cX1_shift 40 = .ok (.goto (-38), 3) := by decide +kernel
theorem dX1_shift_43 : decode cX1_shift 43 = .ok (.return_, 1) := by decide +kernel
theorem dX1_placesNotZero_0 : decode cX1_placesNotZero 0 = .ok (.iconst 0, 1) := by decide +kernel
theorem dX1_placesNotZero_1 : decode cX1_placesNotZero 1 = .ok (.istore_n 1, 1) := by decide +kernel
theorem dX1_placesNotZero_2 : decode cX1_placesNotZero 2 = .ok (.iconst 0, 1) := by decide +kernel
theorem dX1_placesNotZero_3 : decode cX1_placesNotZero 3 = .ok (.istore_n 2, 1) := by decide +kernel
theorem dX1_placesNotZero_4 : decode cX1_placesNotZero 4 = .ok (.iload_n 2, 1) := by decide +kernel
theorem dX1_placesNotZero_5 : decode cX1_placesNotZero 5 = .ok (.bipush 32, 2) := by decide +kernel
theorem dX1_placesNotZero_7 : decode cX1_placesNotZero 7 = .ok (.if_icmp .ge 21, 3) := by decide +kernel
theorem dX1_placesNotZero_10 : decode cX1_placesNotZero 10 = .ok (.aload_n 0, 1) := by decide +kernel
theorem dX1_placesNotZero_11 : decode cX1_placesNotZero 11 = .ok (.getfield 11, 3) := by decide +kernel
theorem dX1_placesNotZero_14 : decode cX1_placesNotZero 14 = .ok (.iload_n 2, 1) := by decide +kernel
theorem dX1_placesNotZero_15 : decode cX1_placesNotZero 15 = .ok (.iaload, 1) := by decide +kernel
theorem dX1_placesNotZero_16 : decode cX1_placesNotZero 16 = .ok (.ifCond .eq 6, 3) := by decide +kernel
theorem dX1_placesNotZero_19 : decode cX1_placesNotZero 19 = .ok (.iinc 1 1, 3) := by decide +kernel
theorem dX1_placesNotZero_22 : decode cX1_placesNotZero 22 = .ok (.iinc 2 1, 3) := by decide +kernel
theorem dX1_placesNotZero_25 : decode cX1_placesNotZero 25 = .ok (.goto (-21), 3) := by decide +kernel
theorem dX1_placesNotZero_28 : decode cX1_placesNotZero 28 = .ok (.iload_n 1, 1) := by decide +kernel
theorem dX1_placesNotZero_29 : decode cX1_placesNotZero 29 = .ok (.ireturn, 1) := by decide +kernel
theorem dX1_sumOf_0 : decode cX1_sumOf 0 = .ok (.iconst 0, 1) := by decide +kernel
theorem dX1_sumOf_1 : decode cX1_sumOf 1 = .ok (.istore_n 2, 1) := by decide +kernel
theorem dX1_sumOf_2 : decode cX1_sumOf 2 = .ok (.iconst 0, 1) := by decide +kernel
theorem dX1_sumOf_3 : decode cX1_sumOf 3 = .ok (.istore_n 3, 1) := by decide +kernel
theorem dX1_sumOf_4 : decode cX1_sumOf 4 = .ok (.iload_n 3, 1) := by decide +kernel
theorem dX1_sumOf_5 : decode cX1_sumOf 5 = .ok (.bipush 16, 2) := by decide +kernel
theorem dX1_sumOf_7 : decode cX1_sumOf 7 = .ok (.if_icmp .ge 23, 3) := by decide +kernel
theorem dX1_sumOf_10 : decode cX1_sumOf 10 = .ok (.iload_n 2, 1) := by decide +kernel
theorem dX1_sumOf_11 : decode cX1_sumOf 11 = .ok (.aload_n 0, 1) := by decide +kernel
theorem dX1_sumOf_12 : decode cX1_sumOf 12 = .ok (.getfield 11, 3) := by decide +kernel
theorem dX1_sumOf_15 : decode cX1_sumOf 15 = .ok (.iload_n 1, 1) := by decide +kernel
theorem dX1_sumOf_16 : decode cX1_sumOf 16 = .ok (.bipush 16, 2) := by decide +kernel
theorem dX1_sumOf_18 : decode cX1_sumOf 18 = .ok (.imul, 1) := by decide +kernel
theorem dX1_sumOf_19 : decode cX1_sumOf 19 = .ok (.iload_n 3, 1) := by decide +kernel
theorem dX1_sumOf_20 : decode cX1_sumOf 20 = .ok (.iadd, 1) := by decide +kernel
theorem dX1_sumOf_21 : decode cX1_sumOf 21 = .ok (.iaload, 1) := by decide +kernel
theorem dX1_sumOf_22 : decode cX1_sumOf 22 = .ok (.iadd, 1) := by decide +kernel
theorem dX1_sumOf_23 : decode cX1_sumOf 23 = .ok (.istore_n 2, 1) := by decide +kernel
theorem dX1_sumOf_24 : decode cX1_sumOf 24 = .ok (.iinc 3 1, 3) := by decide +kernel
theorem dX1_sumOf_27 : decode cX1_sumOf 27 = .ok (.goto (-23), 3) := by decide +kernel
theorem dX1_sumOf_30 : decode cX1_sumOf 30 = .ok (.iload_n 2, 1) := by decide +kernel
theorem dX1_sumOf_31 : decode cX1_sumOf 31 = .ok (.ireturn, 1) := by decide +kernel
theorem dX1_onLine_0 : decode cX1_onLine 0 = .ok (.iload_n 2, 1) := by decide +kernel
theorem dX1_onLine_1 : decode cX1_onLine 1 = .ok (.ifCond .ne 14, 3) := by decide +kernel
theorem dX1_onLine_4 : decode cX1_onLine 4 = .ok (.aload_n 0, 1) := by decide +kernel
theorem dX1_onLine_5 : decode cX1_onLine 5 = .ok (.iload_n 1, 1) := by decide +kernel
theorem dX1_onLine_6 : decode cX1_onLine 6 = .ok (.iload_n 3, 1) := by decide +kernel
theorem dX1_onLine_7 : decode cX1_onLine 7 = .ok (.iload 4, 2) := by decide +kernel
theorem dX1_onLine_9 : decode cX1_onLine 9 = .ok (.invokevirtual 81, 3) := by decide +kernel
theorem dX1_onLine_12 : decode cX1_onLine 12 = .ok (.goto 11, 3) := by decide +kernel
theorem dX1_onLine_15 : decode cX1_onLine 15 = .ok (.aload_n 0, 1) := by decide +kernel
theorem dX1_onLine_16 : decode cX1_onLine 16 = .ok (.iload_n 1, 1) := by decide +kernel
theorem dX1_onLine_17 : decode cX1_onLine 17 = .ok (.iload 4, 2) := by decide +kernel
theorem dX1_onLine_19 : decode cX1_onLine 19 = .ok (.iload_n 3, 1) := by decide +kernel
theorem dX1_onLine_20 : decode cX1_onLine 20 = .ok (.invokevirtual 81, 3) := by decide +kernel
theorem dX1_onLine_23 : decode cX1_onLine 23 = .ok (.ireturn, 1) := by decide +kernel
theorem dX1_putOnLine_0 : decode cX1_putOnLine 0 = .ok (.iload_n 2, 1) := by decide +kernel
theorem dX1_putOnLine_1 : decode cX1_putOnLine 1 = .ok (.ifCond .ne 16, 3) := by decide +kernel
theorem dX1_putOnLine_4 : decode cX1_putOnLine 4 = .ok (.aload_n 0, 1) := by decide +kernel
theorem dX1_putOnLine_5 : decode cX1_putOnLine 5 = .ok (.iload_n 1, 1) := by decide +kernel
theorem dX1_putOnLine_6 : decode cX1_putOnLine 6 = .ok (.iload_n 3, 1) := by decide +kernel
theorem dX1_putOnLine_7 : decode cX1_putOnLine 7 = .ok (.iload 4, 2) := by decide +kernel
theorem dX1_putOnLine_9 : decode cX1_putOnLine 9 = .ok (.iload 5, 2) := by decide +kernel
theorem dX1_putOnLine_11 : decode cX1_putOnLine 11 = .ok (.invokevirtual 63, 3) := by decide +kernel
theorem dX1_putOnLine_14 : decode cX1_putOnLine 14 = .ok (.goto 13, 3) := by decide +kernel
theorem dX1_putOnLine_17 : decode cX1_putOnLine 17 = .ok (.aload_n 0, 1) := by decide +kernel
theorem dX1_putOnLine_18 : decode cX1_putOnLine 18 = .ok (.iload_n 1, 1) := by decide +kernel
theorem dX1_putOnLine_19 : decode cX1_putOnLine 19 = .ok (.iload 4, 2) := by decide +kernel
theorem dX1_putOnLine_21 : decode cX1_putOnLine 21 = .ok (.iload_n 3, 1) := by decide +kernel
theorem dX1_putOnLine_22 : decode cX1_putOnLine 22 = .ok (.iload 5, 2) := by decide +kernel
theorem dX1_putOnLine_24 : decode cX1_putOnLine 24 = .ok (.invokevirtual 63, 3) := by decide +kernel
theorem dX1_putOnLine_27 : decode cX1_putOnLine 27 = .ok (.return_, 1) := by decide +kernel
theorem dX1_exchangeSpots_0 : decode cX1_exchangeSpots 0 = .ok (.aload_n 0, 1) := by decide +kernel
theorem dX1_exchangeSpots_1 : decode cX1_exchangeSpots 1 = .ok (.getfield 11, 3) := by decide +kernel
theorem dX1_exchangeSpots_4 : decode cX1_exchangeSpots 4 = .ok (.iload_n 1, 1) := by decide +kernel
theorem dX1_exchangeSpots_5 : decode cX1_exchangeSpots 5 = .ok (.iaload, 1) := by decide +kernel
theorem dX1_exchangeSpots_6 : decode cX1_exchangeSpots 6 = .ok (.istore_n 3, 1) := by decide +kernel
theorem dX1_exchangeSpots_7 : decode cX1_exchangeSpots 7 = .ok (.aload_n 0, 1) := by decide +kernel
theorem dX1_exchangeSpots_8 : decode cX1_exchangeSpots 8 = .ok (.getfield 11, 3) := by decide +kernel
theorem dX1_exchangeSpots_11 : decode cX1_exchangeSpots 11 = .ok (.iload_n 1, 1) := by decide +kernel
theorem dX1_exchangeSpots_12 : decode cX1_exchangeSpots 12 = .ok (.aload_n 0, 1) := by decide +kernel
theorem dX1_exchangeSpots_13 : decode cX1_exchangeSpots 13 = .ok (.getfield 11, 3) := by decide +kernel
theorem dX1_exchangeSpots_16 : decode cX1_exchangeSpots 16 = .ok (.iload_n 2, 1) := by decide +kernel
theorem dX1_exchangeSpots_17 : decode cX1_exchangeSpots 17 = .ok (.iaload, 1) := by decide +kernel
theorem dX1_exchangeSpots_18 : decode cX1_exchangeSpots 18 = .ok (.iastore, 1) := by decide +kernel
theorem dX1_exchangeSpots_19 : decode cX1_exchangeSpots 19 = .ok (.aload_n 0, 1) := by decide +kernel
theorem dX1_exchangeSpots_20 : decode cX1_exchangeSpots 20 = .ok (.getfield 11, 3) := by decide +kernel
theorem dX1_exchangeSpots_23 : decode cX1_exchangeSpots 23 = .ok (.iload_n 2, 1) := by decide +kernel
theorem dX1_exchangeSpots_24 : decode cX1_exchangeSpots 24 = .ok (.iload_n 3, 1) := by decide +kernel
theorem dX1_exchangeSpots_25 : decode cX1_exchangeSpots 25 = .ok (.iastore, 1) := by decide +kernel
theorem dX1_exchangeSpots_26 : decode cX1_exchangeSpots 26 = .ok (.return_, 1) := by decide +kernel
theorem dX1_spot_0 : decode cX1_spot 0 = .ok (.iload_n 0, 1) := by decide +kernel
theorem dX1_spot_1 : decode cX1_spot 1 = .ok (.bipush 16, 2) := by decide +kernel
theorem dX1_spot_3 : decode cX1_spot 3 = .ok (.imul, 1) := by decide +kernel
theorem dX1_spot_4 : decode cX1_spot 4 = .ok (.iload_n 1, 1) := by decide +kernel
theorem dX1_spot_5 : decode cX1_spot 5 = .ok (.iconst 4, 1) := by decide +kernel
theorem dX1_spot_6 : decode cX1_spot 6 = .ok (.imul, 1) := by decide +kernel
theorem dX1_spot_7 : decode cX1_spot 7 = .ok (.iadd, 1) := by decide +kernel
theorem dX1_spot_8 : decode cX1_spot 8 = .ok (.iload_n 2, 1) := by decide +kernel
theorem dX1_spot_9 : decode cX1_spot 9 = .ok (.iadd, 1) := by decide +kernel
theorem dX1_spot_10 : decode cX1_spot 10 = .ok (.ireturn, 1) := by decide +kernel
end
section
theorem dX2_init_0 : decode cX2_init 0 = .ok (.aload_n 0, 1) := by decide +kernel
theorem dX2_init_1 : decode cX2_init 1 = .ok (.invokespecial 3, 3) := by decide +kernel
theorem dX2_init_4 : decode cX2_init 4 = .ok (.aload_n 0, 1) := by decide +kernel
theorem dX2_init_5 : decode cX2_init 5 = .ok (.bipush 40, 2) := by decide +kernel
theorem dX2_init_7 : decode cX2_init 7 = .ok (.newarray .int, 2) := by decide +kernel
theorem dX2_init_9 : decode cX2_init 9 = .ok (.putfield 9, 3) := by decide +kernel
theorem dX2_init_12 : decode cX2_init 12 = .ok (.aload_n 0, 1) := by decide +kernel
theorem dX2_init_13 : decode cX2_init 13 = .ok (.iconst (-1), 1) := by decide +kernel
theorem dX2_init_14 : decode cX2_init 14 = .ok (.putfield 15, 3) := by decide +kernel
theorem dX2_init_17 : decode cX2_init 17 = .ok (.return_, 1) := by decide +kernel
theorem dX2_isNothing_0 : decode cX2_isNothing 0 = .ok (.aload_n 0, 1) := by decide +kernel
theorem dX2_isNothing_1 : decode cX2_isNothing 1 = .ok (.getfield 15, 3) := by decide +kernel
theorem dX2_isNothing_4 : decode cX2_isNothing 4 = .ok (.iconst (-1), 1) := by decide +kernel
theorem dX2_isNothing_5 : decode cX2_isNothing 5 = .ok (.if_icmp .ne 7, 3) := by decide +kernel
theorem dX2_isNothing_8 : decode cX2_isNothing 8 = .ok (.iconst 1, 1) := by decide +kernel
theorem dX2_isNothing_9 : decode cX2_isNothing 9 = .ok (.goto 4, 3) := by decide +kernel
theorem dX2_isNothing_12 : decode cX2_isNothing 12 = .ok (.iconst 0, 1) := by decide +kernel
theorem dX2_isNothing_13 : decode cX2_isNothing 13 = .ok (.ireturn, 1) := by decide +kernel
theorem dX2_makeNew_0 : decode cX2_makeNew 0 = .ok (.aload_n 0, 1) := by decide +kernel
theorem dX2_makeNew_1 : decode cX2_makeNew 1 = .ok (.getfield 9, 3) := by decide +kernel
theorem dX2_makeNew_4 : decode cX2_makeNew 4 = .ok (.iconst 0, 1) := by decide +kernel
theorem dX2_makeNew_5 : decode cX2_makeNew 5 = .ok (.invokestatic 19, 3) := by decide +kernel
theorem dX2_makeNew_8 : decode cX2_makeNew 8 = .ok (.aload_n 0, 1) := by decide +kernel
theorem dX2_makeNew_9 : decode cX2_makeNew 9 = .ok (.iload_n 1, 1) := by decide +kernel
theorem dX2_makeNew_10 : decode cX2_makeNew 10 = .ok (.putfield 25, 3) := by decide +kernel
theorem dX2_makeNew_13 : decode cX2_makeNew 13 = .ok (.aload_n 0, 1) := by decide +kernel
theorem dX2_makeNew_14 : decode cX2_makeNew 14 = .ok (.iload_n 2, 1) := by decide +kernel
theorem dX2_makeNew_15 : decode cX2_makeNew 15 = .ok (.bipush 40, 2) := by decide +kernel
theorem dX2_makeNew_17 : decode cX2_makeNew 17 = .ok (.invokestatic 28, 3) := by decide +kernel
theorem dX2_makeNew_20 : decode cX2_makeNew 20 = .ok (.putfield 15, 3) := by decide +kernel
theorem dX2_makeNew_23 : decode cX2_makeNew 23 = .ok (.return_, 1) := by decide +kernel
theorem dX2_findAt_0 : decode cX2_findAt 0 = .ok (.aload_n 0, 1) := by decide +kernel
theorem dX2_findAt_1 : decode cX2_findAt 1 = .ok (.invokevirtual 34, 3) := by decide +kernel
theorem dX2_findAt_4 : decode cX2_findAt 4 = .ok (.ifCond .eq 5, 3) := by decide +kernel
theorem dX2_findAt_7 : decode cX2_findAt 7 = .ok (.iconst 1, 1) := by decide +kernel
theorem dX2_findAt_8 : decode cX2_findAt 8 = .ok (.ireturn, 1) := by decide +kernel
theorem dX2_findAt_9 : decode cX2_findAt 9 = .ok (.iload_n 1, 1) := by decide +kernel
theorem dX2_findAt_10 : decode cX2_findAt 10 = .ok (.ifCond .lt 11, 3) := by decide +kernel
theorem dX2_findAt_13 : decode cX2_findAt 13 = .ok (.iload_n 1, 1) := by decide +kernel
theorem dX2_findAt_14 : decode cX2_findAt 14 = .ok (.aload_n 0, 1) := by decide +kernel
theorem dX2_findAt_15 : decode cX2_findAt 15 = .ok (.getfield 15, 3) := by decide +kernel
theorem dX2_findAt_18 : decode cX2_findAt 18 = .ok (.if_icmp .lt 7, 3) := by decide +kernel
theorem dX2_findAt_21 : decode cX2_findAt 21 = .ok (.iconst 2, 1) := by decide +kernel
theorem dX2_findAt_22 : decode cX2_findAt 22 = .ok (.goto 4, 3) := by decide +kernel
theorem dX2_findAt_25 : decode cX2_findAt 25 = .ok (.iconst 0, 1) := by decide +kernel
theorem dX2_findAt_26 : decode cX2_findAt 26 = .ok (.ireturn, 1) := by decide +kernel
theorem dX2_findFour_0 : decode cX2_findFour 0 = .ok (.aload_n 0, 1) := by decide +kernel
theorem dX2_findFour_1 : decode cX2_findFour 1 = .ok (.invokevirtual 34, 3) := by decide +kernel
theorem dX2_findFour_4 : decode cX2_findFour 4 = .ok (.ifCond .eq 5, 3) := by decide +kernel
theorem dX2_findFour_7 : decode cX2_findFour 7 = .ok (.iconst 1, 1) := by decide +kernel
theorem dX2_findFour_8 : decode cX2_findFour 8 = .ok (.ireturn, 1) := by decide +kernel
theorem dX2_findFour_9 : decode cX2_findFour 9 = .ok (.iload_n 1, 1) := by decide +kernel
theorem dX2_findFour_10 : decode cX2_findFour 10 = .ok (.aload_n 0, 1) := by decide +kernel
theorem dX2_findFour_11 : decode cX2_findFour 11 = .ok (.getfield 25, 3) := by decide +kernel
theorem dX2_findFour_14 : decode cX2_findFour 14 = .ok (.if_icmp .eq 5, 3) := by decide +kernel
theorem dX2_findFour_17 : decode cX2_findFour 17 = .ok (.iconst 3, 1) := by decide +kernel
theorem dX2_findFour_18 : decode cX2_findFour 18 = .ok (.ireturn, 1) := by decide +kernel
theorem dX2_findFour_19 : decode cX2_findFour 19 = .ok (.iload_n 2, 1) := by decide +kernel
theorem dX2_findFour_20 : decode cX2_findFour 20 = .ok (.ifCond .lt 13, 3) := by decide +kernel
theorem dX2_findFour_23 : decode cX2_findFour 23 = .ok (.iload_n 2, 1) := by decide +kernel
theorem dX2_findFour_24 : decode cX2_findFour 24 = .ok (.aload_n 0, 1) := by decide +kernel
theorem dX2_findFour_25 : decode cX2_findFour 25 = .ok (.getfield 15, 3) := by decide +kernel
theorem dX2_findFour_28 : decode cX2_findFour 28 = .ok (.iconst 4, 1) := by decide +kernel
theorem dX2_findFour_29 : decode cX2_findFour 29 = .ok (.isub, 1) := by decide +kernel
theorem dX2_findFour_30 : decode cX2_findFour 30 = .ok (.if_icmp .le 7, 3) := by decide +kernel
theorem dX2_findFour_33 : decode cX2_findFour 33 = .ok (.iconst 2, 1) := by decide +kernel
theorem dX2_findFour_34 : decode cX2_findFour 34 = .ok (.goto 4, 3) := by decide +kernel
theorem dX2_findFour_37 : decode cX2_findFour 37 = .ok (.iconst 0, 1) := by decide +kernel
theorem dX2_findFour_38 : decode cX2_findFour 38 = .ok (.ireturn, 1) := by decide +kernel
theorem dX2_cellAt_0 : decode cX2_cellAt 0 = .ok (.aload_n 0, 1) := by decide +kernel
theorem dX2_cellAt_1 : decode cX2_cellAt 1 = .ok (.iload_n 1, 1) := by decide +kernel
theorem dX2_cellAt_2 : decode cX2_cellAt 2 = .ok (.invokevirtual 38, 3) := by decide +kernel
theorem dX2_cellAt_5 : decode cX2_cellAt 5 = .ok (.ifCond .ne 12, 3) := by decide +kernel
theorem dX2_cellAt_8 : decode cX2_cellAt 8 = .ok (.aload_n 0, 1) := by decide +kernel
theorem dX2_cellAt_9 : decode cX2_cellAt 9 = .ok (.getfield 9, 3) := by decide +kernel
theorem dX2_cellAt_12 : decode cX2_cellAt 12 = .ok (.iload_n 1, 1) := by decide +kernel
theorem dX2_cellAt_13 : decode cX2_cellAt 13 = .ok (.iaload, 1) := by decide +kernel
theorem dX2_cellAt_14 : decode cX2_cellAt 14 = .ok (.goto 4, 3) := by decide +kernel
theorem dX2_cellAt_17 : decode cX2_cellAt 17 = .ok (.iconst 0, 1) := by decide +kernel
theorem dX2_cellAt_18 : decode cX2_cellAt 18 = .ok (.ireturn, 1) := by decide +kernel
theorem dX2_putCell_0 : decode cX2_putCell 0 = .ok (.aload_n 0, 1) := by decide +kernel
theorem dX2_putCell_1 : decode cX2_putCell 1 = .ok (.iload_n 1, 1) := by decide +kernel
theorem dX2_putCell_2 : decode cX2_putCell 2 = .ok (.invokevirtual 38, 3) := by decide +kernel
theorem dX2_putCell_5 : decode cX2_putCell 5 = .ok (.ifCond .ne 35, 3) := by decide +kernel
theorem dX2_putCell_8 : decode cX2_putCell 8 = .ok (.aload_n 0, 1) := by decide +kernel
theorem dX2_putCell_9 : decode cX2_putCell 9 = .ok (.getfield 9, 3) := by decide +kernel
theorem dX2_putCell_12 : decode cX2_putCell 12 = .ok (.iload_n 1, 1) := by decide +kernel
theorem dX2_putCell_13 : decode cX2_putCell 13 = .ok (.aload_n 0, 1) := by decide +kernel
theorem dX2_putCell_14 : decode cX2_putCell 14 = .ok (.getfield 25, 3) := by decide +kernel
theorem dX2_putCell_17 : decode cX2_putCell 17 = .ok (.ifCond .ne 8, 3) := by decide +kernel
theorem dX2_putCell_20 : decode cX2_putCell 20 = .ok (.iload_n 2, 1) := by decide +kernel
theorem dX2_putCell_21 : decode cX2_putCell 21 = .ok (.i2b, 1) := by decide +kernel
theorem dX2_putCell_22 : decode cX2_putCell 22 = .ok (.goto 17, 3) := by decide +kernel
theorem dX2_putCell_25 : decode cX2_putCell 25 = .ok (.aload_n 0, 1) := by decide +kernel
theorem dX2_putCell_26 : decode cX2_putCell 26 = .ok (.getfield 25, 3) := by decide +kernel
theorem dX2_putCell_29 : decode cX2_putCell 29 = .ok (.iconst 1, 1) := by decide +kernel
theorem dX2_putCell_30 : decode cX2_putCell 30 = .ok (.if_icmp .ne 8, 3) := by decide +kernel
theorem dX2_putCell_33 : decode cX2_putCell 33 = .ok (.iload_n 2, 1) := by decide +kernel
theorem dX2_putCell_34 : decode cX2_putCell 34 = .ok (.i2s, 1) := by decide +kernel
theorem dX2_putCell_35 : decode cX2_putCell 35 = .ok (.goto 4, 3) := by decide +kernel
theorem dX2_putCell_38 : decode cX2_putCell 38 = .ok (.iload_n 2, 1) := by decide +kernel
theorem dX2_putCell_39 : decode cX2_putCell 39 = .ok (.iastore, 1) := by decide +kernel
theorem dX2_putCell_40 : decode cX2_putCell 40 = .ok (.return_, 1) := by decide +kernel
end
section
theorem dX3_init_0 : decode cX3_init 0 = .ok (.aload_n 0, 1) := by decide +kernel
theorem dX3_init_1 : decode cX3_init 1 = .ok (.invokespecial 3, 3) := by decide +kernel
theorem dX3_init_4 : decode cX3_init 4 = .ok (.aload_n 0, 1) := by decide +kernel
theorem dX3_init_5 : decode cX3_init 5 = .ok (.sipush 160, 3) := by decide +kernel
theorem dX3_init_8 : decode cX3_init 8 = .ok (.newarray .byte, 2) := by decide +kernel
theorem dX3_init_10 : decode cX3_init 10 = .ok (.putfield 9, 3) := by decide +kernel
theorem dX3_init_13 : decode cX3_init 13 = .ok (.aload_n 0, 1) := by decide +kernel
theorem dX3_init_14 : decode cX3_init 14 = .ok (.new 15, 3) := by decide +kernel
theorem dX3_init_17 : decode cX3_init 17 = .ok (.dup, 1) := by decide +kernel
theorem dX3_init_18 : decode cX3_init 18 = .ok (.invokespecial 17, 3) := by decide +kernel
theorem dX3_init_21 : decode cX3_init 21 = .ok (.putfield 18, 3) := by decide +kernel
theorem dX3_init_24 : decode cX3_init 24 = .ok (.return_, 1) := by decide +kernel
theorem dX3_addByte_0 : decode cX3_addByte 0 = .ok (.aload_n 0, 1) := by decide +kernel
theorem dX3_addByte_1 : decode cX3_addByte 1 = .ok (.getfield 22, 3) := by decide +kernel
theorem dX3_addByte_4 : decode cX3_addByte 4 = .ok (.sipush 160, 3) := by decide +kernel
theorem dX3_addByte_7 : decode cX3_addByte 7 = .ok (.if_icmp .lt 5, 3) := by decide +kernel
theorem dX3_addByte_10 : decode cX3_addByte 10 = .ok (.iconst 0, 1) := by decide +kernel
theorem dX3_addByte_11 : decode cX3_addByte 11 = .ok (.ireturn, 1) := by decide +kernel
theorem dX3_addByte_12 : decode cX3_addByte 12 = .ok (.aload_n 0, 1) := by decide +kernel
theorem dX3_addByte_13 : decode cX3_addByte 13 = .ok (.getfield 9, 3) := by decide +kernel
theorem dX3_addByte_16 : decode cX3_addByte 16 = .ok (.aload_n 0, 1) := by decide +kernel
theorem dX3_addByte_17 : decode cX3_addByte 17 = .ok (.getfield 22, 3) := by decide +kernel
theorem dX3_addByte_20 : decode cX3_addByte 20 = .ok (.iload_n 1, 1) := by decide +kernel
theorem dX3_addByte_21 : decode cX3_addByte 21 = .ok (.i2b, 1) := by decide +kernel
theorem dX3_addByte_22 : decode cX3_addByte 22 = .ok (.bastore, 1) := by decide +kernel
theorem dX3_addByte_23 : decode cX3_addByte 23 = .ok (.aload_n 0, 1) := by decide +kernel
theorem dX3_addByte_24 : decode cX3_addByte 24 = .ok (.dup, 1) := by decide +kernel
theorem dX3_addByte_25 : decode cX3_addByte 25 = .ok (.getfield 22, 3) := by decide +kernel
theorem dX3_addByte_28 : decode cX3_addByte 28 = .ok (.iconst 1, 1) := by decide +kernel
theorem dX3_addByte_29 : decode cX3_addByte 29 = .ok (.iadd, 1) := by decide +kernel
theorem dX3_addByte_30 : decode cX3_addByte 30 = .ok (.putfield 22, 3) := by decide +kernel
theorem dX3_addByte_33 : decode cX3_addByte 33 = .ok (.iconst 1, 1) := by decide +kernel
theorem dX3_addByte_34 : decode cX3_addByte 34 = .ok (.ireturn, 1) := by decide +kernel
theorem dX3_readText_0 : decode cX3_readText 0 = .ok (.aload_n 0, 1) := by decide +kernel
theorem dX3_readText_1 : decode cX3_readText 1 = .ok (.iconst 0, 1) := by decide +kernel
theorem dX3_readText_2 : decode cX3_readText 2 = .ok (.putfield 26, 3) := by decide +kernel
theorem dX3_readText_5 : decode cX3_readText 5 = .ok (.aload_n 0, 1) := by decide +kernel
theorem dX3_readText_6 : decode cX3_readText 6 = .ok (.iconst (-1), 1) := by decide +kernel
theorem dX3_readText_7 : decode cX3_readText 7 = .ok (.putfield 29, 3) := by decide +kernel
theorem dX3_readText_10 : decode cX3_readText 10 = .ok (.aload_n 0, 1) := by decide +kernel
theorem dX3_readText_11 : decode cX3_readText 11 = .ok (.iconst 0, 1) := by decide +kernel
theorem dX3_readText_12 : decode cX3_readText 12 = .ok (.putfield 32, 3) := by decide +kernel
theorem dX3_readText_15 : decode cX3_readText 15 = .ok (.aload_n 0, 1) := by decide +kernel
theorem dX3_readText_16 : decode cX3_readText 16 = .ok (.iconst 0, 1) := by decide +kernel
theorem dX3_readText_17 : decode cX3_readText 17 = .ok (.putfield 36, 3) := by decide +kernel
theorem dX3_readText_20 : decode cX3_readText 20 = .ok (.aload_n 0, 1) := by decide +kernel
theorem dX3_readText_21 : decode cX3_readText 21 = .ok (.iconst 0, 1) := by decide +kernel
theorem dX3_readText_22 : decode cX3_readText 22 = .ok (.putfield 39, 3) := by decide +kernel
theorem dX3_readText_25 : decode cX3_readText 25 = .ok (.aload_n 0, 1) := by decide +kernel
theorem dX3_readText_26 : decode cX3_readText 26 = .ok (.getfield 18, 3) := by decide +kernel
theorem dX3_readText_29 : decode cX3_readText 29 = .ok (.invokevirtual 42, 3) := by decide +kernel
theorem dX3_readText_32 : decode cX3_readText 32 = .ok (.aload_n 0, 1) := by decide +kernel
theorem dX3_readText_33 : decode cX3_readText 33 = .ok (.iconst 0, 1) := by decide +kernel
theorem dX3_readText_34 : decode cX3_readText 34 = .ok (.putfield 45, 3) := by decide +kernel
theorem dX3_readText_37 : decode cX3_readText 37 = .ok (.iconst 1, 1) := by decide +kernel
theorem dX3_readText_38 : decode cX3_readText 38 = .ok (.istore_n 1, 1) := by decide +kernel
theorem dX3_readText_39 : decode cX3_readText 39 = .ok (.iconst 0, 1) := by decide +kernel
theorem dX3_readText_40 : decode cX3_readText 40 = .ok (.istore_n 2, 1) := by decide +kernel
theorem dX3_readText_41 : decode cX3_readText 41 = .ok (.iload_n 2, 1) := by decide +kernel
theorem dX3_readText_42 : decode cX3_readText 42 = .ok (.aload_n 0, 1) := by decide +kernel
theorem dX3_readText_43 : decode cX3_readText 43 = .ok (.getfield 22, 3) := by decide +kernel
theorem dX3_readText_46 : decode cX3_readText 46 = .ok (.if_icmp .gt 58, 3) := by decide +kernel
theorem dX3_readText_49 : decode cX3_readText 49 = .ok (.iload_n 1, 1) := by decide +kernel
theorem dX3_readText_50 : decode cX3_readText 50 = .ok (.ifCond .eq 54, 3) := by decide +kernel
theorem dX3_readText_53 : decode cX3_readText 53 = .ok (.aload_n 0, 1) := by decide +kernel
theorem dX3_readText_54 : decode cX3_readText 54 = .ok (.invokevirtual 48, 3) := by decide +kernel
theorem dX3_readText_57 : decode cX3_readText 57 = .ok (.ifCond .eq 21, 3) := by decide +kernel
theorem dX3_readText_60 : decode cX3_readText 60 = .ok (.aload_n 0, 1) := by decide +kernel
theorem dX3_readText_61 : decode cX3_readText 61 = .ok (.getfield 52, 3) := by decide +kernel
theorem dX3_readText_64 : decode cX3_readText 64 = .ok (.ifCond .eq 14, 3) := by decide +kernel
theorem dX3_readText_67 : decode cX3_readText 67 = .ok (.aload_n 0, 1) := by decide +kernel
theorem dX3_readText_68 : decode cX3_readText 68 = .ok (.invokevirtual 55, 3) := by decide +kernel
theorem dX3_readText_71 : decode cX3_readText 71 = .ok (.ifCond .eq 7, 3) := by decide +kernel
theorem dX3_readText_74 : decode cX3_readText 74 = .ok (.iconst 1, 1) := by decide +kernel
theorem dX3_readText_75 : decode cX3_readText 75 = .ok (.goto 4, 3) := by decide +kernel
theorem dX3_readText_78 : decode cX3_readText 78 = .ok (.iconst 0, 1) := by decide +kernel
theorem dX3_readText_79 : decode cX3_readText 79 = .ok (.istore_n 1, 1) := by decide +kernel
theorem dX3_readText_80 : decode cX3_readText 80 = .ok (.aload_n 0, 1) := by decide +kernel
theorem dX3_readText_81 : decode cX3_readText 81 = .ok (.dup, 1) := by decide +kernel
theorem dX3_readText_82 : decode cX3_readText 82 = .ok (.getfield 45, 3) := by decide +kernel
theorem dX3_readText_85 : decode cX3_readText 85 = .ok (.iload_n 1, 1) := by decide +kernel
theorem dX3_readText_86 : decode cX3_readText 86 = .ok (.ifCond .eq 7, 3) := by decide +kernel
theorem dX3_readText_89 : decode cX3_readText 89 = .ok (.iconst 1, 1) := by decide +kernel
theorem dX3_readText_90 : decode cX3_readText 90 = .ok (.goto 4, 3) := by decide +kernel
theorem dX3_readText_93 : decode cX3_readText 93 = .ok (.iconst 0, 1) := by decide +kernel
theorem dX3_readText_94 : decode cX3_readText 94 = .ok (.iadd, 1) := by decide +kernel
theorem dX3_readText_95 : decode cX3_readText 95 = .ok (.putfield 45, 3) := by decide +kernel
theorem dX3_readText_98 : decode cX3_readText 98 = .ok (.iinc 2 1, 3) := by decide +kernel
theorem dX3_readText_101 : decode cX3_readText 101 = .ok (.goto (-60), 3) := by decide +kernel
theorem dX3_readText_104 : decode cX3_readText 104 = .ok (.aload_n 0, 1) := by decide +kernel
theorem dX3_readText_105 : decode cX3_readText 105 = .ok (.getfield 36, 3) := by decide +kernel
theorem dX3_readText_108 : decode cX3_readText 108 = .ok (.ifCond .ne 28, 3) := by decide +kernel
theorem dX3_readText_111 : decode cX3_readText 111 = .ok (.aload_n 0, 1) := by decide +kernel
theorem dX3_readText_112 : decode cX3_readText 112 = .ok (.getfield 29, 3) := by decide +kernel
theorem dX3_readText_115 : decode cX3_readText 115 = .ok (.aload_n 0, 1) := by decide +kernel
theorem dX3_readText_116 : decode cX3_readText 116 = .ok (.getfield 18, 3) := by decide +kernel
theorem dX3_readText_119 : decode cX3_readText 119 = .ok (.getfield 58, 3) := by decide +kernel
theorem dX3_readText_122 : decode cX3_readText 122 = .ok (.if_icmp .lt 14, 3) := by decide +kernel
theorem dX3_readText_125 : decode cX3_readText 125 = .ok (.aload_n 0, 1) := by decide +kernel
theorem dX3_readText_126 : decode cX3_readText 126 = .ok (.bipush 6, 2) := by decide +kernel
theorem dX3_readText_128 : decode cX3_readText 128 = .ok (.aload_n 0, 1) := by decide +kernel
theorem dX3_readText_129 : decode cX3_readText 129 = .ok (.getfield 22, 3) := by decide +kernel
theorem dX3_readText_132 : decode cX3_readText 132 = .ok (.invokevirtual 61, 3) := by decide +kernel
theorem dX3_readText_135 : decode cX3_readText 135 = .ok (.pop, 1) := by decide +kernel
theorem dX3_readText_136 : decode cX3_readText 136 = .ok (.return_, 1) := by decide +kernel
theorem dX3_readLine_0 : decode cX3_readLine 0 = .ok (.aload_n 0, 1) := by decide +kernel
theorem dX3_readLine_1 : decode cX3_readLine 1 = .ok (.getfield 52, 3) := by decide +kernel
theorem dX3_readLine_4 : decode cX3_readLine 4 = .ok (.iconst 1, 1) := by decide +kernel
theorem dX3_readLine_5 : decode cX3_readLine 5 = .ok (.if_icmp .ne 10, 3) := by decide +kernel
theorem dX3_readLine_8 : decode cX3_readLine 8 = .ok (.aload_n 0, 1) := by decide +kernel
theorem dX3_readLine_9 : decode cX3_readLine 9 = .ok (.invokevirtual 65, 3) := by decide +kernel
theorem dX3_readLine_12 : decode cX3_readLine 12 = .ok (.goto 4, 3) := by decide +kernel
theorem dX3_readLine_15 : decode cX3_readLine 15 = .ok (.iconst 0, 1) := by decide +kernel
theorem dX3_readLine_16 : decode cX3_readLine 16 = .ok (.istore_n 1, 1) := by decide +kernel
theorem dX3_readLine_17 : decode cX3_readLine 17 = .ok (.iload_n 1, 1) := by decide +kernel
theorem dX3_readLine_18 : decode cX3_readLine 18 = .ok (.ifCond .ne 13, 3) := by decide +kernel
theorem dX3_readLine_21 : decode cX3_readLine 21 = .ok (.aload_n 0, 1) := by decide +kernel
theorem dX3_readLine_22 : decode cX3_readLine 22 = .ok (.iconst 2, 1) := by decide +kernel
theorem dX3_readLine_23 : decode cX3_readLine 23 = .ok (.aload_n 0, 1) := by decide +kernel
theorem dX3_readLine_24 : decode cX3_readLine 24 = .ok (.getfield 69, 3) := by decide +kernel
theorem dX3_readLine_27 : decode cX3_readLine 27 = .ok (.invokevirtual 61, 3) := by decide +kernel
theorem dX3_readLine_30 : decode cX3_readLine 30 = .ok (.ireturn, 1) := by decide +kernel
theorem dX3_readLine_31 : decode cX3_readLine 31 = .ok (.iload_n 1, 1) := by decide +kernel
theorem dX3_readLine_32 : decode cX3_readLine 32 = .ok (.iconst 1, 1) := by decide +kernel
theorem dX3_readLine_33 : decode cX3_readLine 33 = .ok (.if_icmp .ne 10, 3) := by decide +kernel
theorem dX3_readLine_36 : decode cX3_readLine 36 = .ok (.aload_n 0, 1) := by decide +kernel
theorem dX3_readLine_37 : decode cX3_readLine 37 = .ok (.invokevirtual 72, 3) := by decide +kernel
theorem dX3_readLine_40 : decode cX3_readLine 40 = .ok (.goto 8, 3) := by decide +kernel
theorem dX3_readLine_43 : decode cX3_readLine 43 = .ok (.aload_n 0, 1) := by decide +kernel
theorem dX3_readLine_44 : decode cX3_readLine 44 = .ok (.iload_n 1, 1) := by decide +kernel
theorem dX3_readLine_45 : decode cX3_readLine 45 = .ok (.invokevirtual 75, 3) := by decide +kernel
theorem dX3_readLine_48 : decode cX3_readLine 48 = .ok (.istore_n 2, 1) := by decide +kernel
theorem dX3_readLine_49 : decode cX3_readLine 49 = .ok (.iload_n 2, 1) := by decide +kernel
theorem dX3_readLine_50 : decode cX3_readLine 50 = .ok (.ifCond .eq 10, 3) := by decide +kernel
theorem dX3_readLine_53 : decode cX3_readLine 53 = .ok (.aload_n 0, 1) := by decide +kernel
theorem dX3_readLine_54 : decode cX3_readLine 54 = .ok (.invokevirtual 48, 3) := by decide +kernel
theorem dX3_readLine_57 : decode cX3_readLine 57 = .ok (.ifCond .ne 5, 3) := by decide +kernel
theorem dX3_readLine_60 : decode cX3_readLine 60 = .ok (.iconst 0, 1) := by decide +kernel
theorem dX3_readLine_61 : decode cX3_readLine 61 = .ok (.ireturn, 1) := by decide +kernel
theorem dX3_readLine_62 : decode cX3_readLine 62 = .ok (.aload_n 0, 1) := by decide +kernel
theorem dX3_readLine_63 : decode cX3_readLine 63 = .ok (.getfield 52, 3) := by decide +kernel
theorem dX3_readLine_66 : decode cX3_readLine 66 = .ok (.iconst 3, 1) := by decide +kernel
theorem dX3_readLine_67 : decode cX3_readLine 67 = .ok (.if_icmp .eq 15, 3) := by decide +kernel
theorem dX3_readLine_70 : decode cX3_readLine 70 = .ok (.aload_n 0, 1) := by decide +kernel
theorem dX3_readLine_71 : decode cX3_readLine 71 = .ok (.iconst 2, 1) := by decide +kernel
theorem dX3_readLine_72 : decode cX3_readLine 72 = .ok (.aload_n 0, 1) := by decide +kernel
theorem dX3_readLine_73 : decode cX3_readLine 73 = .ok (.getfield 69, 3) := by decide +kernel
theorem dX3_readLine_76 : decode cX3_readLine 76 = .ok (.invokevirtual 61, 3) := by decide +kernel
theorem dX3_readLine_79 : decode cX3_readLine 79 = .ok (.ifCond .eq 7, 3) := by decide +kernel
theorem dX3_readLine_82 : decode cX3_readLine 82 = .ok (.iconst 1, 1) := by decide +kernel
theorem dX3_readLine_83 : decode cX3_readLine 83 = .ok (.goto 4, 3) := by decide +kernel
theorem dX3_readLine_86 : decode cX3_readLine 86 = .ok (.iconst 0, 1) := by decide +kernel
theorem dX3_readLine_87 : decode cX3_readLine 87 = .ok (.ireturn, 1) := by decide +kernel
theorem dX3_readPrime_0 : decode cX3_readPrime 0 = .ok (.aload_n 0, 1) := by decide +kernel
theorem dX3_readPrime_1 : decode cX3_readPrime 1 = .ok (.getfield 32, 3) := by decide +kernel
theorem dX3_readPrime_4 : decode cX3_readPrime 4 = .ok (.ifCond .eq 13, 3) := by decide +kernel
theorem dX3_readPrime_7 : decode cX3_readPrime 7 = .ok (.aload_n 0, 1) := by decide +kernel
theorem dX3_readPrime_8 : decode cX3_readPrime 8 = .ok (.iconst 4, 1) := by decide +kernel
theorem dX3_readPrime_9 : decode cX3_readPrime 9 = .ok (.aload_n 0, 1) := by decide +kernel
theorem dX3_readPrime_10 : decode cX3_readPrime 10 = .ok (.getfield 69, 3) := by decide +kernel
theorem dX3_readPrime_13 : decode cX3_readPrime 13 = .ok (.invokevirtual 61, 3) := by decide +kernel
theorem dX3_readPrime_16 : decode cX3_readPrime 16 = .ok (.ireturn, 1) := by decide +kernel
theorem dX3_readPrime_17 : decode cX3_readPrime 17 = .ok (.aload_n 0, 1) := by decide +kernel
theorem dX3_readPrime_18 : decode cX3_readPrime 18 = .ok (.iconst 1, 1) := by decide +kernel
theorem dX3_readPrime_19 : decode cX3_readPrime 19 = .ok (.putfield 32, 3) := by decide +kernel
theorem dX3_readPrime_22 : decode cX3_readPrime 22 = .ok (.aload_n 0, 1) := by decide +kernel
theorem dX3_readPrime_23 : decode cX3_readPrime 23 = .ok (.iconst 2, 1) := by decide +kernel
theorem dX3_readPrime_24 : decode cX3_readPrime 24 = .ok (.bipush 7, 2) := by decide +kernel
theorem dX3_readPrime_26 : decode cX3_readPrime 26 = .ok (.invokevirtual 79, 3) := by decide +kernel
theorem dX3_readPrime_29 : decode cX3_readPrime 29 = .ok (.ifCond .ne 5, 3) := by decide +kernel
theorem dX3_readPrime_32 : decode cX3_readPrime 32 = .ok (.iconst 0, 1) := by decide +kernel
theorem dX3_readPrime_33 : decode cX3_readPrime 33 = .ok (.ireturn, 1) := by decide +kernel
theorem dX3_readPrime_34 : decode cX3_readPrime 34 = .ok (.aload_n 0, 1) := by decide +kernel
theorem dX3_readPrime_35 : decode cX3_readPrime 35 = .ok (.getfield 82, 3) := by decide +kernel
theorem dX3_readPrime_38 : decode cX3_readPrime 38 = .ok (.iconst 4, 1) := by decide +kernel
theorem dX3_readPrime_39 : decode cX3_readPrime 39 = .ok (.if_icmp .eq 12, 3) := by decide +kernel
theorem dX3_readPrime_42 : decode cX3_readPrime 42 = .ok (.aload_n 0, 1) := by decide +kernel
theorem dX3_readPrime_43 : decode cX3_readPrime 43 = .ok (.getfield 82, 3) := by decide +kernel
theorem dX3_readPrime_46 : decode cX3_readPrime 46 = .ok (.bipush 6, 2) := by decide +kernel
theorem dX3_readPrime_48 : decode cX3_readPrime 48 = .ok (.if_icmp .ne 13, 3) := by decide +kernel
theorem dX3_readPrime_51 : decode cX3_readPrime 51 = .ok (.aload_n 0, 1) := by decide +kernel
theorem dX3_readPrime_52 : decode cX3_readPrime 52 = .ok (.iconst 3, 1) := by decide +kernel
theorem dX3_readPrime_53 : decode cX3_readPrime 53 = .ok (.aload_n 0, 1) := by decide +kernel
theorem dX3_readPrime_54 : decode cX3_readPrime 54 = .ok (.getfield 69, 3) := by decide +kernel
theorem dX3_readPrime_57 : decode cX3_readPrime 57 = .ok (.invokevirtual 61, 3) := by decide +kernel
theorem dX3_readPrime_60 : decode cX3_readPrime 60 = .ok (.ireturn, 1) := by decide +kernel
theorem dX3_readPrime_61 : decode cX3_readPrime 61 = .ok (.aload_n 0, 1) := by decide +kernel
theorem dX3_readPrime_62 : decode cX3_readPrime 62 = .ok (.getfield 18, 3) := by decide +kernel
theorem dX3_readPrime_65 : decode cX3_readPrime 65 = .ok (.aload_n 0, 1) := by decide +kernel
theorem dX3_readPrime_66 : decode cX3_readPrime 66 = .ok (.getfield 82, 3) := by decide +kernel
theorem dX3_readPrime_69 : decode cX3_readPrime 69 = .ok (.putfield 58, 3) := by decide +kernel
theorem dX3_readPrime_72 : decode cX3_readPrime 72 = .ok (.iconst 1, 1) := by decide +kernel
theorem dX3_readPrime_73 : decode cX3_readPrime 73 = .ok (.ireturn, 1) := by decide +kernel
theorem dX3_readBlock_0 : decode cX3_readBlock 0 = .ok (.iconst 0, 1) := by decide +kernel
theorem dX3_readBlock_1 : decode cX3_readBlock 1 = .ok (.istore_n 2, 1) := by decide +kernel
theorem dX3_readBlock_2 : decode cX3_readBlock 2 = .ok (.iload_n 1, 1) := by decide +kernel
theorem dX3_readBlock_3 : decode cX3_readBlock 3 = .ok (.iconst 5, 1) := by decide +kernel
theorem dX3_readBlock_4 : decode cX3_readBlock 4 = .ok (.if_icmp .ne 32, 3) := by decide +kernel
theorem dX3_readBlock_7 : decode cX3_readBlock 7 = .ok (.aload_n 0, 1) := by decide +kernel
theorem dX3_readBlock_8 : decode cX3_readBlock 8 = .ok (.iconst 0, 1) := by decide +kernel
theorem dX3_readBlock_9 : decode cX3_readBlock 9 = .ok (.bipush 6, 2) := by decide +kernel
theorem dX3_readBlock_11 : decode cX3_readBlock 11 = .ok (.invokevirtual 79, 3) := by decide +kernel
theorem dX3_readBlock_14 : decode cX3_readBlock 14 = .ok (.ifCond .ne 5, 3) := by decide +kernel
theorem dX3_readBlock_17 : decode cX3_readBlock 17 = .ok (.iconst 0, 1) := by decide +kernel
theorem dX3_readBlock_18 : decode cX3_readBlock 18 = .ok (.ireturn, 1) := by decide +kernel
theorem dX3_readBlock_19 : decode cX3_readBlock 19 = .ok (.aload_n 0, 1) := by decide +kernel
theorem dX3_readBlock_20 : decode cX3_readBlock 20 = .ok (.getfield 82, 3) := by decide +kernel
theorem dX3_readBlock_23 : decode cX3_readBlock 23 = .ok (.istore_n 2, 1) := by decide +kernel
theorem dX3_readBlock_24 : decode cX3_readBlock 24 = .ok (.aload_n 0, 1) := by decide +kernel
theorem dX3_readBlock_25 : decode cX3_readBlock 25 = .ok (.aload_n 0, 1) := by decide +kernel
theorem dX3_readBlock_26 : decode cX3_readBlock 26 = .ok (.getfield 29, 3) := by decide +kernel
theorem dX3_readBlock_29 : decode cX3_readBlock 29 = .ok (.iload_n 2, 1) := by decide +kernel
theorem dX3_readBlock_30 : decode cX3_readBlock 30 = .ok (.invokestatic 85, 3) := by decide +kernel
theorem dX3_readBlock_33 : decode cX3_readBlock 33 = .ok (.putfield 29, 3) := by decide +kernel
theorem dX3_readBlock_36 : decode cX3_readBlock 36 = .ok (.iload_n 1, 1) := by decide +kernel
theorem dX3_readBlock_37 : decode cX3_readBlock 37 = .ok (.iconst 2, 1) := by decide +kernel
theorem dX3_readBlock_38 : decode cX3_readBlock 38 = .ok (.if_icmp .eq 8, 3) := by decide +kernel
theorem dX3_readBlock_41 : decode cX3_readBlock 41 = .ok (.iload_n 1, 1) := by decide +kernel
theorem dX3_readBlock_42 : decode cX3_readBlock 42 = .ok (.iconst 3, 1) := by decide +kernel
theorem dX3_readBlock_43 : decode cX3_readBlock 43 = .ok (.if_icmp .ne 7, 3) := by decide +kernel
theorem dX3_readBlock_46 : decode cX3_readBlock 46 = .ok (.iconst 0, 1) := by decide +kernel
theorem dX3_readBlock_47 : decode cX3_readBlock 47 = .ok (.goto 4, 3) := by decide +kernel
theorem dX3_readBlock_50 : decode cX3_readBlock 50 = .ok (.iconst 1, 1) := by decide +kernel
theorem dX3_readBlock_51 : decode cX3_readBlock 51 = .ok (.istore_n 3, 1) := by decide +kernel
theorem dX3_readBlock_52 : decode cX3_readBlock 52 = .ok (.aload_n 0, 1) := by decide +kernel
theorem dX3_readBlock_53 : decode cX3_readBlock 53 = .ok (.iload_n 3, 1) := by decide +kernel
theorem dX3_readBlock_54 : decode cX3_readBlock 54 = .ok (.iconst 4, 1) := by decide +kernel
theorem dX3_readBlock_55 : decode cX3_readBlock 55 = .ok (.invokevirtual 79, 3) := by decide +kernel
theorem dX3_readBlock_58 : decode cX3_readBlock 58 = .ok (.ifCond .ne 5, 3) := by decide +kernel
theorem dX3_readBlock_61 : decode cX3_readBlock 61 = .ok (.iconst 0, 1) := by decide +kernel
theorem dX3_readBlock_62 : decode cX3_readBlock 62 = .ok (.ireturn, 1) := by decide +kernel
theorem dX3_readBlock_63 : decode cX3_readBlock 63 = .ok (.aload_n 0, 1) := by decide +kernel
theorem dX3_readBlock_64 : decode cX3_readBlock 64 = .ok (.getfield 18, 3) := by decide +kernel
theorem dX3_readBlock_67 : decode cX3_readBlock 67 = .ok (.getfield 91, 3) := by decide +kernel
theorem dX3_readBlock_70 : decode cX3_readBlock 70 = .ok (.aload_n 0, 1) := by decide +kernel
theorem dX3_readBlock_71 : decode cX3_readBlock 71 = .ok (.getfield 82, 3) := by decide +kernel
theorem dX3_readBlock_74 : decode cX3_readBlock 74 = .ok (.iadd, 1) := by decide +kernel
theorem dX3_readBlock_75 : decode cX3_readBlock 75 = .ok (.iload_n 1, 1) := by decide +kernel
theorem dX3_readBlock_76 : decode cX3_readBlock 76 = .ok (.iconst 3, 1) := by decide +kernel
theorem dX3_readBlock_77 : decode cX3_readBlock 77 = .ok (.if_icmp .ne 7, 3) := by decide +kernel
theorem dX3_readBlock_80 : decode cX3_readBlock 80 = .ok (.iconst 1, 1) := by decide +kernel
theorem dX3_readBlock_81 : decode cX3_readBlock 81 = .ok (.goto 4, 3) := by decide +kernel
theorem dX3_readBlock_84 : decode cX3_readBlock 84 = .ok (.iconst 0, 1) := by decide +kernel
theorem dX3_readBlock_85 : decode cX3_readBlock 85 = .ok (.iadd, 1) := by decide +kernel
theorem dX3_readBlock_86 : decode cX3_readBlock 86 = .ok (.istore 4, 2) := by decide +kernel
theorem dX3_readBlock_88 : decode cX3_readBlock 88 = .ok (.aload_n 0, 1) := by decide +kernel
theorem dX3_readBlock_89 : decode cX3_readBlock 89 = .ok (.getfield 18, 3) := by decide +kernel
theorem dX3_readBlock_92 : decode cX3_readBlock 92 = .ok (.getfield 94, 3) := by decide +kernel
theorem dX3_readBlock_95 : decode cX3_readBlock 95 = .ok (.aload_n 0, 1) := by decide +kernel
theorem dX3_readBlock_96 : decode cX3_readBlock 96 = .ok (.getfield 82, 3) := by decide +kernel
theorem dX3_readBlock_99 : decode cX3_readBlock 99 = .ok (.iadd, 1) := by decide +kernel
theorem dX3_readBlock_100 : decode cX3_readBlock 100 = .ok (.iload_n 1, 1) := by decide +kernel
theorem dX3_readBlock_101 : decode cX3_readBlock 101 = .ok (.iconst 2, 1) := by decide +kernel
theorem dX3_readBlock_102 : decode cX3_readBlock 102 = .ok (.if_icmp .ne 7, 3) := by decide +kernel
theorem dX3_readBlock_105 : decode cX3_readBlock 105 = .ok (.iconst 1, 1) := by decide +kernel
theorem dX3_readBlock_106 : decode cX3_readBlock 106 = .ok (.goto 4, 3) := by decide +kernel
theorem dX3_readBlock_109 : decode cX3_readBlock 109 = .ok (.iconst 0, 1) := by decide +kernel
theorem dX3_readBlock_110 : decode cX3_readBlock 110 = .ok (.iadd, 1) := by decide +kernel
theorem dX3_readBlock_111 : decode cX3_readBlock 111 = .ok (.istore 5, 2) := by decide +kernel
theorem dX3_readBlock_113 : decode cX3_readBlock 113 = .ok (.iload 4, 2) := by decide +kernel
theorem dX3_readBlock_115 : decode cX3_readBlock 115 = .ok (.iconst 4, 1) := by decide +kernel
theorem dX3_readBlock_116 : decode cX3_readBlock 116 = .ok (.if_icmp .gt 9, 3) := by decide +kernel
theorem dX3_readBlock_119 : decode cX3_readBlock 119 = .ok (.iload 5, 2) := by decide +kernel
theorem dX3_readBlock_121 : decode cX3_readBlock 121 = .ok (.iconst 4, 1) := by decide +kernel
theorem dX3_readBlock_122 : decode cX3_readBlock 122 = .ok (.if_icmp .le 13, 3) := by decide +kernel
theorem dX3_readBlock_125 : decode cX3_readBlock 125 = .ok (.aload_n 0, 1) := by decide +kernel
theorem dX3_readBlock_126 : decode cX3_readBlock 126 = .ok (.iconst 5, 1) := by decide +kernel
theorem dX3_readBlock_127 : decode cX3_readBlock 127 = .ok (.aload_n 0, 1) := by decide +kernel
theorem dX3_readBlock_128 : decode cX3_readBlock 128 = .ok (.getfield 69, 3) := by decide +kernel
theorem dX3_readBlock_131 : decode cX3_readBlock 131 = .ok (.invokevirtual 61, 3) := by decide +kernel
theorem dX3_readBlock_134 : decode cX3_readBlock 134 = .ok (.ireturn, 1) := by decide +kernel
theorem dX3_readBlock_135 : decode cX3_readBlock 135 = .ok (.aload_n 0, 1) := by decide +kernel
theorem dX3_readBlock_136 : decode cX3_readBlock 136 = .ok (.iload_n 1, 1) := by decide +kernel
theorem dX3_readBlock_137 : decode cX3_readBlock 137 = .ok (.iload_n 2, 1) := by decide +kernel
theorem dX3_readBlock_138 : decode cX3_readBlock 138 = .ok (.iload 4, 2) := by decide +kernel
theorem dX3_readBlock_140 : decode cX3_readBlock 140 = .ok (.iload 5, 2) := by decide +kernel
theorem dX3_readBlock_142 : decode cX3_readBlock 142 = .ok (.invokevirtual 97, 3) := by decide +kernel
theorem dX3_readBlock_145 : decode cX3_readBlock 145 = .ok (.iconst 1, 1) := by decide +kernel
theorem dX3_readBlock_146 : decode cX3_readBlock 146 = .ok (.ireturn, 1) := by decide +kernel
theorem dX3_putBlock_0 : decode cX3_putBlock 0 = .ok (.aload_n 0, 1) := by decide +kernel
theorem dX3_putBlock_1 : decode cX3_putBlock 1 = .ok (.getfield 18, 3) := by decide +kernel
theorem dX3_putBlock_4 : decode cX3_putBlock 4 = .ok (.getfield 91, 3) := by decide +kernel
theorem dX3_putBlock_7 : decode cX3_putBlock 7 = .ok (.istore 5, 2) := by decide +kernel
theorem dX3_putBlock_9 : decode cX3_putBlock 9 = .ok (.aload_n 0, 1) := by decide +kernel
theorem dX3_putBlock_10 : decode cX3_putBlock 10 = .ok (.getfield 18, 3) := by decide +kernel
theorem dX3_putBlock_13 : decode cX3_putBlock 13 = .ok (.getfield 94, 3) := by decide +kernel
theorem dX3_putBlock_16 : decode cX3_putBlock 16 = .ok (.istore 6, 2) := by decide +kernel
theorem dX3_putBlock_18 : decode cX3_putBlock 18 = .ok (.aload_n 0, 1) := by decide +kernel
theorem dX3_putBlock_19 : decode cX3_putBlock 19 = .ok (.getfield 18, 3) := by decide +kernel
theorem dX3_putBlock_22 : decode cX3_putBlock 22 = .ok (.iload_n 3, 1) := by decide +kernel
theorem dX3_putBlock_23 : decode cX3_putBlock 23 = .ok (.iload 4, 2) := by decide +kernel
theorem dX3_putBlock_25 : decode cX3_putBlock 25 = .ok (.invokevirtual 101, 3) := by decide +kernel
theorem dX3_putBlock_28 : decode cX3_putBlock 28 = .ok (.iconst 0, 1) := by decide +kernel
theorem dX3_putBlock_29 : decode cX3_putBlock 29 = .ok (.istore 7, 2) := by decide +kernel
theorem dX3_putBlock_31 : decode cX3_putBlock 31 = .ok (.iload 7, 2) := by decide +kernel
theorem dX3_putBlock_33 : decode cX3_putBlock 33 = .ok (.aload_n 0, 1) := by decide +kernel
theorem dX3_putBlock_34 : decode cX3_putBlock 34 = .ok (.getfield 82, 3) := by decide +kernel
theorem dX3_putBlock_37 : decode cX3_putBlock 37 = .ok (.if_icmp .ge 136, 3) := by decide +kernel
theorem dX3_putBlock_40 : decode cX3_putBlock 40 = .ok (.iload 5, 2) := by decide +kernel
theorem dX3_putBlock_42 : decode cX3_putBlock 42 = .ok (.iload 7, 2) := by decide +kernel
theorem dX3_putBlock_44 : decode cX3_putBlock 44 = .ok (.iadd, 1) := by decide +kernel
theorem dX3_putBlock_45 : decode cX3_putBlock 45 = .ok (.istore 8, 2) := by decide +kernel
theorem dX3_putBlock_47 : decode cX3_putBlock 47 = .ok (.iload 6, 2) := by decide +kernel
theorem dX3_putBlock_49 : decode cX3_putBlock 49 = .ok (.iload 7, 2) := by decide +kernel
theorem dX3_putBlock_51 : decode cX3_putBlock 51 = .ok (.iadd, 1) := by decide +kernel
theorem dX3_putBlock_52 : decode cX3_putBlock 52 = .ok (.istore 9, 2) := by decide +kernel
theorem dX3_putBlock_54 : decode cX3_putBlock 54 = .ok (.iload_n 1, 1) := by decide +kernel
theorem dX3_putBlock_55 : decode cX3_putBlock 55 = .ok (.iconst 5, 1) := by decide +kernel
theorem dX3_putBlock_56 : decode cX3_putBlock 56 = .ok (.if_icmp .ne 47, 3) := by decide +kernel
theorem dX3_putBlock_59 : decode cX3_putBlock 59 = .ok (.aload_n 0, 1) := by decide +kernel
theorem dX3_putBlock_60 : decode cX3_putBlock 60 = .ok (.getfield 18, 3) := by decide +kernel
theorem dX3_putBlock_63 : decode cX3_putBlock 63 = .ok (.iconst 0, 1) := by decide +kernel
theorem dX3_putBlock_64 : decode cX3_putBlock 64 = .ok (.iload 8, 2) := by decide +kernel
theorem dX3_putBlock_66 : decode cX3_putBlock 66 = .ok (.iload 9, 2) := by decide +kernel
theorem dX3_putBlock_68 : decode cX3_putBlock 68 = .ok (.iload_n 2, 1) := by decide +kernel
theorem dX3_putBlock_69 : decode cX3_putBlock 69 = .ok (.invokevirtual 105, 3) := by decide +kernel
theorem dX3_putBlock_72 : decode cX3_putBlock 72 = .ok (.aload_n 0, 1) := by decide +kernel
theorem dX3_putBlock_73 : decode cX3_putBlock 73 = .ok (.getfield 18, 3) := by decide +kernel
theorem dX3_putBlock_76 : decode cX3_putBlock 76 = .ok (.iconst 0, 1) := by decide +kernel
theorem dX3_putBlock_77 : decode cX3_putBlock 77 = .ok (.iload 8, 2) := by decide +kernel
theorem dX3_putBlock_79 : decode cX3_putBlock 79 = .ok (.iload 9, 2) := by decide +kernel
theorem dX3_putBlock_81 : decode cX3_putBlock 81 = .ok (.iconst 1, 1) := by decide +kernel
theorem dX3_putBlock_82 : decode cX3_putBlock 82 = .ok (.iadd, 1) := by decide +kernel
theorem dX3_putBlock_83 : decode cX3_putBlock 83 = .ok (.iconst 1, 1) := by decide +kernel
theorem dX3_putBlock_84 : decode cX3_putBlock 84 = .ok (.invokevirtual 105, 3) := by decide +kernel
theorem dX3_putBlock_87 : decode cX3_putBlock 87 = .ok (.aload_n 0, 1) := by decide +kernel
theorem dX3_putBlock_88 : decode cX3_putBlock 88 = .ok (.getfield 18, 3) := by decide +kernel
theorem dX3_putBlock_91 : decode cX3_putBlock 91 = .ok (.iconst 1, 1) := by decide +kernel
theorem dX3_putBlock_92 : decode cX3_putBlock 92 = .ok (.iload 8, 2) := by decide +kernel
theorem dX3_putBlock_94 : decode cX3_putBlock 94 = .ok (.iload 9, 2) := by decide +kernel
theorem dX3_putBlock_96 : decode cX3_putBlock 96 = .ok (.iconst 1, 1) := by decide +kernel
theorem dX3_putBlock_97 : decode cX3_putBlock 97 = .ok (.invokevirtual 105, 3) := by decide +kernel
theorem dX3_putBlock_100 : decode cX3_putBlock 100 = .ok (.goto 67, 3) := by decide +kernel
theorem dX3_putBlock_103 : decode cX3_putBlock 103 = .ok (.iload_n 1, 1) := by decide +kernel
theorem dX3_putBlock_104 : decode cX3_putBlock 104 = .ok (.iconst 3, 1) := by decide +kernel
theorem dX3_putBlock_105 : decode cX3_putBlock 105 = .ok (.if_icmp .ne 34, 3) := by decide +kernel
theorem dX3_putBlock_108 : decode cX3_putBlock 108 = .ok (.aload_n 0, 1) := by decide +kernel
theorem dX3_putBlock_109 : decode cX3_putBlock 109 = .ok (.getfield 18, 3) := by decide +kernel
theorem dX3_putBlock_112 : decode cX3_putBlock 112 = .ok (.iconst 0, 1) := by decide +kernel
theorem dX3_putBlock_113 : decode cX3_putBlock 113 = .ok (.iload 8, 2) := by decide +kernel
theorem dX3_putBlock_115 : decode cX3_putBlock 115 = .ok (.iload 9, 2) := by decide +kernel
theorem dX3_putBlock_117 : decode cX3_putBlock 117 = .ok (.iconst 1, 1) := by decide +kernel
theorem dX3_putBlock_118 : decode cX3_putBlock 118 = .ok (.invokevirtual 105, 3) := by decide +kernel
theorem dX3_putBlock_121 : decode cX3_putBlock 121 = .ok (.aload_n 0, 1) := by decide +kernel
theorem dX3_putBlock_122 : decode cX3_putBlock 122 = .ok (.getfield 18, 3) := by decide +kernel
theorem dX3_putBlock_125 : decode cX3_putBlock 125 = .ok (.iconst 1, 1) := by decide +kernel
theorem dX3_putBlock_126 : decode cX3_putBlock 126 = .ok (.iload 8, 2) := by decide +kernel
theorem dX3_putBlock_128 : decode cX3_putBlock 128 = .ok (.iconst 1, 1) := by decide +kernel
theorem dX3_putBlock_129 : decode cX3_putBlock 129 = .ok (.iadd, 1) := by decide +kernel
theorem dX3_putBlock_130 : decode cX3_putBlock 130 = .ok (.iload 9, 2) := by decide +kernel
theorem dX3_putBlock_132 : decode cX3_putBlock 132 = .ok (.iconst 1, 1) := by decide +kernel
theorem dX3_putBlock_133 : decode cX3_putBlock 133 = .ok (.invokevirtual 105, 3) := by decide +kernel
theorem dX3_putBlock_136 : decode cX3_putBlock 136 = .ok (.goto 31, 3) := by decide +kernel
theorem dX3_putBlock_139 : decode cX3_putBlock 139 = .ok (.aload_n 0, 1) := by decide +kernel
theorem dX3_putBlock_140 : decode cX3_putBlock 140 = .ok (.getfield 18, 3) := by decide +kernel
theorem dX3_putBlock_143 : decode cX3_putBlock 143 = .ok (.iconst 0, 1) := by decide +kernel
theorem dX3_putBlock_144 : decode cX3_putBlock 144 = .ok (.iload 8, 2) := by decide +kernel
theorem dX3_putBlock_146 : decode cX3_putBlock 146 = .ok (.iload 9, 2) := by decide +kernel
theorem dX3_putBlock_148 : decode cX3_putBlock 148 = .ok (.iconst 1, 1) := by decide +kernel
theorem dX3_putBlock_149 : decode cX3_putBlock 149 = .ok (.invokevirtual 105, 3) := by decide +kernel
theorem dX3_putBlock_152 : decode cX3_putBlock 152 = .ok (.aload_n 0, 1) := by decide +kernel
theorem dX3_putBlock_153 : decode cX3_putBlock 153 = .ok (.getfield 18, 3) := by decide +kernel
theorem dX3_putBlock_156 : decode cX3_putBlock 156 = .ok (.iconst 1, 1) := by decide +kernel
theorem dX3_putBlock_157 : decode cX3_putBlock 157 = .ok (.iload 8, 2) := by decide +kernel
theorem dX3_putBlock_159 : decode cX3_putBlock 159 = .ok (.iload 9, 2) := by decide +kernel
theorem dX3_putBlock_161 : decode cX3_putBlock 161 = .ok (.iconst 1, 1) := by decide +kernel
theorem dX3_putBlock_162 : decode cX3_putBlock 162 = .ok (.iadd, 1) := by decide +kernel
theorem dX3_putBlock_163 : decode cX3_putBlock 163 = .ok (.iconst 1, 1) := by decide +kernel
theorem dX3_putBlock_164 : decode cX3_putBlock 164 = .ok (.invokevirtual 105, 3) := by decide +kernel
theorem dX3_putBlock_167 : decode cX3_putBlock 167 = .ok (.iinc 7 1, 3) := by decide +kernel
theorem dX3_putBlock_170 : decode cX3_putBlock 170 = .ok (.goto (-139), 3) := by decide +kernel
theorem dX3_putBlock_173 : decode cX3_putBlock 173 = .ok (.return_, 1) := by decide +kernel
theorem dX3_readNumber_0 : decode cX3_readNumber 0 = .ok (.aload_n 0, 1) := by decide +kernel
theorem dX3_readNumber_1 : decode cX3_readNumber 1 = .ok (.invokevirtual 48, 3) := by decide +kernel
theorem dX3_readNumber_4 : decode cX3_readNumber 4 = .ok (.ifCond .ne 5, 3) := by decide +kernel
theorem dX3_readNumber_7 : decode cX3_readNumber 7 = .ok (.iconst 0, 1) := by decide +kernel
theorem dX3_readNumber_8 : decode cX3_readNumber 8 = .ok (.ireturn, 1) := by decide +kernel
theorem dX3_readNumber_9 : decode cX3_readNumber 9 = .ok (.aload_n 0, 1) := by decide +kernel
theorem dX3_readNumber_10 : decode cX3_readNumber 10 = .ok (.getfield 52, 3) := by decide +kernel
theorem dX3_readNumber_13 : decode cX3_readNumber 13 = .ok (.iconst 2, 1) := by decide +kernel
theorem dX3_readNumber_14 : decode cX3_readNumber 14 = .ok (.if_icmp .eq 13, 3) := by decide +kernel
theorem dX3_readNumber_17 : decode cX3_readNumber 17 = .ok (.aload_n 0, 1) := by decide +kernel
theorem dX3_readNumber_18 : decode cX3_readNumber 18 = .ok (.iconst 2, 1) := by decide +kernel
theorem dX3_readNumber_19 : decode cX3_readNumber 19 = .ok (.aload_n 0, 1) := by decide +kernel
theorem dX3_readNumber_20 : decode cX3_readNumber 20 = .ok (.getfield 69, 3) := by decide +kernel
theorem dX3_readNumber_23 : decode cX3_readNumber 23 = .ok (.invokevirtual 61, 3) := by decide +kernel
theorem dX3_readNumber_26 : decode cX3_readNumber 26 = .ok (.ireturn, 1) := by decide +kernel
theorem dX3_readNumber_27 : decode cX3_readNumber 27 = .ok (.aload_n 0, 1) := by decide +kernel
theorem dX3_readNumber_28 : decode cX3_readNumber 28 = .ok (.getfield 82, 3) := by decide +kernel
theorem dX3_readNumber_31 : decode cX3_readNumber 31 = .ok (.iload_n 1, 1) := by decide +kernel
theorem dX3_readNumber_32 : decode cX3_readNumber 32 = .ok (.if_icmp .lt 11, 3) := by decide +kernel
theorem dX3_readNumber_35 : decode cX3_readNumber 35 = .ok (.aload_n 0, 1) := by decide +kernel
theorem dX3_readNumber_36 : decode cX3_readNumber 36 = .ok (.getfield 82, 3) := by decide +kernel
theorem dX3_readNumber_39 : decode cX3_readNumber 39 = .ok (.iload_n 2, 1) := by decide +kernel
theorem dX3_readNumber_40 : decode cX3_readNumber 40 = .ok (.if_icmp .le 15, 3) := by decide +kernel
theorem dX3_readNumber_43 : decode cX3_readNumber 43 = .ok (.aload_n 0, 1) := by decide +kernel
theorem dX3_readNumber_44 : decode cX3_readNumber 44 = .ok (.iconst 3, 1) := by decide +kernel
theorem dX3_readNumber_45 : decode cX3_readNumber 45 = .ok (.aload_n 0, 1) := by decide +kernel
theorem dX3_readNumber_46 : decode cX3_readNumber 46 = .ok (.getfield 69, 3) := by decide +kernel
theorem dX3_readNumber_49 : decode cX3_readNumber 49 = .ok (.invokevirtual 61, 3) := by decide +kernel
theorem dX3_readNumber_52 : decode cX3_readNumber 52 = .ok (.ifCond .eq 7, 3) := by decide +kernel
theorem dX3_readNumber_55 : decode cX3_readNumber 55 = .ok (.iconst 1, 1) := by decide +kernel
theorem dX3_readNumber_56 : decode cX3_readNumber 56 = .ok (.goto 4, 3) := by decide +kernel
theorem dX3_readNumber_59 : decode cX3_readNumber 59 = .ok (.iconst 0, 1) := by decide +kernel
theorem dX3_readNumber_60 : decode cX3_readNumber 60 = .ok (.ireturn, 1) := by decide +kernel
theorem dX3_readToken_0 : decode cX3_readToken 0 = .ok (.aload_n 0, 1) := by decide +kernel
theorem dX3_readToken_1 : decode cX3_readToken 1 = .ok (.aload_n 0, 1) := by decide +kernel
theorem dX3_readToken_2 : decode cX3_readToken 2 = .ok (.bipush 32, 2) := by decide +kernel
theorem dX3_readToken_4 : decode cX3_readToken 4 = .ok (.bipush 32, 2) := by decide +kernel
theorem dX3_readToken_6 : decode cX3_readToken 6 = .ok (.invokevirtual 108, 3) := by decide +kernel
theorem dX3_readToken_9 : decode cX3_readToken 9 = .ok (.putfield 26, 3) := by decide +kernel
theorem dX3_readToken_12 : decode cX3_readToken 12 = .ok (.aload_n 0, 1) := by decide +kernel
theorem dX3_readToken_13 : decode cX3_readToken 13 = .ok (.aload_n 0, 1) := by decide +kernel
theorem dX3_readToken_14 : decode cX3_readToken 14 = .ok (.getfield 26, 3) := by decide +kernel
theorem dX3_readToken_17 : decode cX3_readToken 17 = .ok (.putfield 69, 3) := by decide +kernel
theorem dX3_readToken_20 : decode cX3_readToken 20 = .ok (.aload_n 0, 1) := by decide +kernel
theorem dX3_readToken_21 : decode cX3_readToken 21 = .ok (.getfield 26, 3) := by decide +kernel
theorem dX3_readToken_24 : decode cX3_readToken 24 = .ok (.aload_n 0, 1) := by decide +kernel
theorem dX3_readToken_25 : decode cX3_readToken 25 = .ok (.getfield 22, 3) := by decide +kernel
theorem dX3_readToken_28 : decode cX3_readToken 28 = .ok (.if_icmp .lt 10, 3) := by decide +kernel
theorem dX3_readToken_31 : decode cX3_readToken 31 = .ok (.aload_n 0, 1) := by decide +kernel
theorem dX3_readToken_32 : decode cX3_readToken 32 = .ok (.iconst 0, 1) := by decide +kernel
theorem dX3_readToken_33 : decode cX3_readToken 33 = .ok (.putfield 52, 3) := by decide +kernel
theorem dX3_readToken_36 : decode cX3_readToken 36 = .ok (.iconst 1, 1) := by decide +kernel
theorem dX3_readToken_37 : decode cX3_readToken 37 = .ok (.ireturn, 1) := by decide +kernel
theorem dX3_readToken_38 : decode cX3_readToken 38 = .ok (.aload_n 0, 1) := by decide +kernel
theorem dX3_readToken_39 : decode cX3_readToken 39 = .ok (.getfield 9, 3) := by decide +kernel
theorem dX3_readToken_42 : decode cX3_readToken 42 = .ok (.aload_n 0, 1) := by decide +kernel
theorem dX3_readToken_43 : decode cX3_readToken 43 = .ok (.getfield 26, 3) := by decide +kernel
theorem dX3_readToken_46 : decode cX3_readToken 46 = .ok (.baload, 1) := by decide +kernel
theorem dX3_readToken_47 : decode cX3_readToken 47 = .ok (.istore_n 1, 1) := by decide +kernel
theorem dX3_readToken_48 : decode cX3_readToken 48 = .ok (.iload_n 1, 1) := by decide +kernel
theorem dX3_readToken_49 : decode cX3_readToken 49 = .ok (.bipush 97, 2) := by decide +kernel
theorem dX3_readToken_51 : decode cX3_readToken 51 = .ok (.if_icmp .lt 28, 3) := by decide +kernel
theorem dX3_readToken_54 : decode cX3_readToken 54 = .ok (.iload_n 1, 1) := by decide +kernel
theorem dX3_readToken_55 : decode cX3_readToken 55 = .ok (.bipush 122, 2) := by decide +kernel
theorem dX3_readToken_57 : decode cX3_readToken 57 = .ok (.if_icmp .gt 22, 3) := by decide +kernel
theorem dX3_readToken_60 : decode cX3_readToken 60 = .ok (.aload_n 0, 1) := by decide +kernel
theorem dX3_readToken_61 : decode cX3_readToken 61 = .ok (.iconst 1, 1) := by decide +kernel
theorem dX3_readToken_62 : decode cX3_readToken 62 = .ok (.putfield 52, 3) := by decide +kernel
theorem dX3_readToken_65 : decode cX3_readToken 65 = .ok (.aload_n 0, 1) := by decide +kernel
theorem dX3_readToken_66 : decode cX3_readToken 66 = .ok (.aload_n 0, 1) := by decide +kernel
theorem dX3_readToken_67 : decode cX3_readToken 67 = .ok (.bipush 97, 2) := by decide +kernel
theorem dX3_readToken_69 : decode cX3_readToken 69 = .ok (.bipush 122, 2) := by decide +kernel
theorem dX3_readToken_71 : decode cX3_readToken 71 = .ok (.invokevirtual 108, 3) := by decide +kernel
theorem dX3_readToken_74 : decode cX3_readToken 74 = .ok (.putfield 26, 3) := by decide +kernel
theorem dX3_readToken_77 : decode cX3_readToken 77 = .ok (.iconst 1, 1) := by decide +kernel
theorem dX3_readToken_78 : decode cX3_readToken 78 = .ok (.ireturn, 1) := by decide +kernel
theorem dX3_readToken_79 : decode cX3_readToken 79 = .ok (.iload_n 1, 1) := by decide +kernel
theorem dX3_readToken_80 : decode cX3_readToken 80 = .ok (.bipush 48, 2) := by decide +kernel
theorem dX3_readToken_82 : decode cX3_readToken 82 = .ok (.if_icmp .lt 56, 3) := by decide +kernel
theorem dX3_readToken_85 : decode cX3_readToken 85 = .ok (.iload_n 1, 1) := by decide +kernel
theorem dX3_readToken_86 : decode cX3_readToken 86 = .ok (.bipush 57, 2) := by decide +kernel
theorem dX3_readToken_88 : decode cX3_readToken 88 = .ok (.if_icmp .gt 50, 3) := by decide +kernel
theorem dX3_readToken_91 : decode cX3_readToken 91 = .ok (.aload_n 0, 1) := by decide +kernel
theorem dX3_readToken_92 : decode cX3_readToken 92 = .ok (.iconst 2, 1) := by decide +kernel
theorem dX3_readToken_93 : decode cX3_readToken 93 = .ok (.putfield 52, 3) := by decide +kernel
theorem dX3_readToken_96 : decode cX3_readToken 96 = .ok (.aload_n 0, 1) := by decide +kernel
theorem dX3_readToken_97 : decode cX3_readToken 97 = .ok (.aload_n 0, 1) := by decide +kernel
theorem dX3_readToken_98 : decode cX3_readToken 98 = .ok (.bipush 48, 2) := by decide +kernel
theorem dX3_readToken_100 : decode cX3_readToken 100 = .ok (.bipush 57, 2) := by decide +kernel
theorem dX3_readToken_102 : decode cX3_readToken 102 = .ok (.invokevirtual 108, 3) := by decide +kernel
theorem dX3_readToken_105 : decode cX3_readToken 105 = .ok (.putfield 26, 3) := by decide +kernel
theorem dX3_readToken_108 : decode cX3_readToken 108 = .ok (.aload_n 0, 1) := by decide +kernel
theorem dX3_readToken_109 : decode cX3_readToken 109 = .ok (.getfield 26, 3) := by decide +kernel
theorem dX3_readToken_112 : decode cX3_readToken 112 = .ok (.aload_n 0, 1) := by decide +kernel
theorem dX3_readToken_113 : decode cX3_readToken 113 = .ok (.getfield 69, 3) := by decide +kernel
theorem dX3_readToken_116 : decode cX3_readToken 116 = .ok (.isub, 1) := by decide +kernel
theorem dX3_readToken_117 : decode cX3_readToken 117 = .ok (.iconst 2, 1) := by decide +kernel
theorem dX3_readToken_118 : decode cX3_readToken 118 = .ok (.if_icmp .gt 10, 3) := by decide +kernel
theorem dX3_readToken_121 : decode cX3_readToken 121 = .ok (.aload_n 0, 1) := by decide +kernel
theorem dX3_readToken_122 : decode cX3_readToken 122 = .ok (.invokevirtual 112, 3) := by decide +kernel
theorem dX3_readToken_125 : decode cX3_readToken 125 = .ok (.goto 12, 3) := by decide +kernel
theorem dX3_readToken_128 : decode cX3_readToken 128 = .ok (.aload_n 0, 1) := by decide +kernel
theorem dX3_readToken_129 : decode cX3_readToken 129 = .ok (.iconst 1, 1) := by decide +kernel
theorem dX3_readToken_130 : decode cX3_readToken 130 = .ok (.aload_n 0, 1) := by decide +kernel
theorem dX3_readToken_131 : decode cX3_readToken 131 = .ok (.getfield 69, 3) := by decide +kernel
theorem dX3_readToken_134 : decode cX3_readToken 134 = .ok (.invokevirtual 61, 3) := by decide +kernel
theorem dX3_readToken_137 : decode cX3_readToken 137 = .ok (.ireturn, 1) := by decide +kernel
theorem dX3_readToken_138 : decode cX3_readToken 138 = .ok (.iload_n 1, 1) := by decide +kernel
theorem dX3_readToken_139 : decode cX3_readToken 139 = .ok (.bipush 59, 2) := by decide +kernel
theorem dX3_readToken_141 : decode cX3_readToken 141 = .ok (.if_icmp .ne 20, 3) := by decide +kernel
theorem dX3_readToken_144 : decode cX3_readToken 144 = .ok (.aload_n 0, 1) := by decide +kernel
theorem dX3_readToken_145 : decode cX3_readToken 145 = .ok (.iconst 3, 1) := by decide +kernel
theorem dX3_readToken_146 : decode cX3_readToken 146 = .ok (.putfield 52, 3) := by decide +kernel
theorem dX3_readToken_149 : decode cX3_readToken 149 = .ok (.aload_n 0, 1) := by decide +kernel
theorem dX3_readToken_150 : decode cX3_readToken 150 = .ok (.dup, 1) := by decide +kernel
theorem dX3_readToken_151 : decode cX3_readToken 151 = .ok (.getfield 26, 3) := by decide +kernel
theorem dX3_readToken_154 : decode cX3_readToken 154 = .ok (.iconst 1, 1) := by decide +kernel
theorem dX3_readToken_155 : decode cX3_readToken 155 = .ok (.iadd, 1) := by decide +kernel
theorem dX3_readToken_156 : decode cX3_readToken 156 = .ok (.putfield 26, 3) := by decide +kernel
theorem dX3_readToken_159 : decode cX3_readToken 159 = .ok (.iconst 1, 1) := by decide +kernel
theorem dX3_readToken_160 : decode cX3_readToken 160 = .ok (.ireturn, 1) := by decide +kernel
theorem dX3_readToken_161 : decode cX3_readToken 161 = .ok (.aload_n 0, 1) := by decide +kernel
theorem dX3_readToken_162 : decode cX3_readToken 162 = .ok (.iconst 1, 1) := by decide +kernel
theorem dX3_readToken_163 : decode cX3_readToken 163 = .ok (.aload_n 0, 1) := by decide +kernel
theorem dX3_readToken_164 : decode cX3_readToken 164 = .ok (.getfield 69, 3) := by decide +kernel
theorem dX3_readToken_167 : decode cX3_readToken 167 = .ok (.invokevirtual 61, 3) := by decide +kernel
theorem dX3_readToken_170 : decode cX3_readToken 170 = .ok (.ireturn, 1) := by decide +kernel
theorem dX3_takeNumber_0 : decode cX3_takeNumber 0 = .ok (.aload_n 0, 1) := by decide +kernel
theorem dX3_takeNumber_1 : decode cX3_takeNumber 1 = .ok (.iconst 0, 1) := by decide +kernel
theorem dX3_takeNumber_2 : decode cX3_takeNumber 2 = .ok (.putfield 82, 3) := by decide +kernel
theorem dX3_takeNumber_5 : decode cX3_takeNumber 5 = .ok (.aload_n 0, 1) := by decide +kernel
theorem dX3_takeNumber_6 : decode cX3_takeNumber 6 = .ok (.getfield 69, 3) := by decide +kernel
theorem dX3_takeNumber_9 : decode cX3_takeNumber 9 = .ok (.istore_n 1, 1) := by decide +kernel
theorem dX3_takeNumber_10 : decode cX3_takeNumber 10 = .ok (.iload_n 1, 1) := by decide +kernel
theorem dX3_takeNumber_11 : decode cX3_takeNumber 11 = .ok (.aload_n 0, 1) := by decide +kernel
theorem dX3_takeNumber_12 : decode cX3_takeNumber 12 = .ok (.getfield 26, 3) := by decide +kernel
theorem dX3_takeNumber_15 : decode cX3_takeNumber 15 = .ok (.if_icmp .ge 30, 3) := by decide +kernel
theorem dX3_takeNumber_18 : decode cX3_takeNumber 18 = .ok (.aload_n 0, 1) := by decide +kernel
theorem dX3_takeNumber_19 : decode cX3_takeNumber 19 = .ok (.bipush 10, 2) := by decide +kernel
theorem dX3_takeNumber_21 : decode cX3_takeNumber 21 = .ok (.aload_n 0, 1) := by decide +kernel
theorem dX3_takeNumber_22 : decode cX3_takeNumber 22 = .ok (.getfield 82, 3) := by decide +kernel
theorem dX3_takeNumber_25 : decode cX3_takeNumber 25 = .ok (.imul, 1) := by decide +kernel
theorem dX3_takeNumber_26 : decode cX3_takeNumber 26 = .ok (.aload_n 0, 1) := by decide +kernel
theorem dX3_takeNumber_27 : decode cX3_takeNumber 27 = .ok (.getfield 9, 3) := by decide +kernel
theorem dX3_takeNumber_30 : decode cX3_takeNumber 30 = .ok (.iload_n 1, 1) := by decide +kernel
theorem dX3_takeNumber_31 : decode cX3_takeNumber 31 = .ok (.baload, 1) := by decide +kernel
theorem dX3_takeNumber_32 : decode cX3_takeNumber 32 = .ok (.iadd, 1) := by decide +kernel
theorem dX3_takeNumber_33 : decode cX3_takeNumber 33 = .ok (.bipush 48, 2) := by decide +kernel
theorem dX3_takeNumber_35 : decode cX3_takeNumber 35 = .ok (.isub, 1) := by decide +kernel
theorem dX3_takeNumber_36 : decode cX3_takeNumber 36 = .ok (.putfield 82, 3) := by decide +kernel
theorem dX3_takeNumber_39 : decode cX3_takeNumber 39 = .ok (.iinc 1 1, 3) := by decide +kernel
theorem dX3_takeNumber_42 : decode cX3_takeNumber 42 = .ok (.goto (-32), 3) := by decide +kernel
theorem dX3_takeNumber_45 : decode cX3_takeNumber 45 = .ok (.iconst 1, 1) := by decide +kernel
theorem dX3_takeNumber_46 : decode cX3_takeNumber 46 = .ok (.ireturn, 1) := by decide +kernel
theorem dX3_endOfRun_0 : decode cX3_endOfRun 0 = .ok (.aload_n 0, 1) := by decide +kernel
theorem dX3_endOfRun_1 : decode cX3_endOfRun 1 = .ok (.getfield 26, 3) := by decide +kernel
theorem dX3_endOfRun_4 : decode cX3_endOfRun 4 = .ok (.istore_n 3, 1) := by decide +kernel
theorem dX3_endOfRun_5 : decode cX3_endOfRun 5 = .ok (.iload_n 3, 1) := by decide +kernel
theorem dX3_endOfRun_6 : decode cX3_endOfRun 6 = .ok (.aload_n 0, 1) := by decide +kernel
theorem dX3_endOfRun_7 : decode cX3_endOfRun 7 = .ok (.getfield 22, 3) := by decide +kernel
theorem dX3_endOfRun_10 : decode cX3_endOfRun 10 = .ok (.if_icmp .ge 29, 3) := by decide +kernel
theorem dX3_endOfRun_13 : decode cX3_endOfRun 13 = .ok (.aload_n 0, 1) := by decide +kernel
theorem dX3_endOfRun_14 : decode cX3_endOfRun 14 = .ok (.getfield 9, 3) := by decide +kernel
theorem dX3_endOfRun_17 : decode cX3_endOfRun 17 = .ok (.iload_n 3, 1) := by decide +kernel
theorem dX3_endOfRun_18 : decode cX3_endOfRun 18 = .ok (.baload, 1) := by decide +kernel
theorem dX3_endOfRun_19 : decode cX3_endOfRun 19 = .ok (.iload_n 1, 1) := by decide +kernel
theorem dX3_endOfRun_20 : decode cX3_endOfRun 20 = .ok (.if_icmp .lt 19, 3) := by decide +kernel
theorem dX3_endOfRun_23 : decode cX3_endOfRun 23 = .ok (.aload_n 0, 1) := by decide +kernel
theorem dX3_endOfRun_24 : decode cX3_endOfRun 24 = .ok (.getfield 9, 3) := by decide +kernel
theorem dX3_endOfRun_27 : decode cX3_endOfRun 27 = .ok (.iload_n 3, 1) := by decide +kernel
theorem dX3_endOfRun_28 : decode cX3_endOfRun 28 = .ok (.baload, 1) := by decide +kernel
theorem dX3_endOfRun_29 : decode cX3_endOfRun 29 = .ok (.iload_n 2, 1) := by decide +kernel
theorem dX3_endOfRun_30 : decode cX3_endOfRun 30 = .ok (.if_icmp .gt 9, 3) := by decide +kernel
theorem dX3_endOfRun_33 : decode cX3_endOfRun 33 = .ok (.iinc 3 1, 3) := by decide +kernel
theorem dX3_endOfRun_36 : decode cX3_endOfRun 36 = .ok (.goto (-31), 3) := by decide +kernel
theorem dX3_endOfRun_39 : decode cX3_endOfRun 39 = .ok (.iload_n 3, 1) := by decide +kernel
theorem dX3_endOfRun_40 : decode cX3_endOfRun 40 = .ok (.ireturn, 1) := by decide +kernel
theorem dX3_lineOfName_0 : decode cX3_lineOfName 0 = .ok (.aload_n 0, 1) := by decide +kernel
theorem dX3_lineOfName_1 : decode cX3_lineOfName 1 = .ok (.ldc 115, 2) := by decide +kernel
theorem dX3_lineOfName_3 : decode cX3_lineOfName 3 = .ok (.invokevirtual 116, 3) := by decide +kernel
theorem dX3_lineOfName_6 : decode cX3_lineOfName 6 = .ok (.ifCond .eq 5, 3) := by decide +kernel
theorem dX3_lineOfName_9 : decode cX3_lineOfName 9 = .ok (.iconst 1, 1) := by decide +kernel
theorem dX3_lineOfName_10 : decode cX3_lineOfName 10 = .ok (.ireturn, 1) := by decide +kernel
theorem dX3_lineOfName_11 : decode cX3_lineOfName 11 = .ok (.aload_n 0, 1) := by decide +kernel
theorem dX3_lineOfName_12 : decode cX3_lineOfName 12 = .ok (.ldc 120, 2) := by decide +kernel
theorem dX3_lineOfName_14 : decode cX3_lineOfName 14 = .ok (.invokevirtual 116, 3) := by decide +kernel
theorem dX3_lineOfName_17 : decode cX3_lineOfName 17 = .ok (.ifCond .eq 5, 3) := by decide +kernel
theorem dX3_lineOfName_20 : decode cX3_lineOfName 20 = .ok (.iconst 2, 1) := by decide +kernel
theorem dX3_lineOfName_21 : decode cX3_lineOfName 21 = .ok (.ireturn, 1) := by decide +kernel
theorem dX3_lineOfName_22 : decode cX3_lineOfName 22 = .ok (.aload_n 0, 1) := by decide +kernel
theorem dX3_lineOfName_23 : decode cX3_lineOfName 23 = .ok (.ldc 122, 2) := by decide +kernel
theorem dX3_lineOfName_25 : decode cX3_lineOfName 25 = .ok (.invokevirtual 116, 3) := by decide +kernel
theorem dX3_lineOfName_28 : decode cX3_lineOfName 28 = .ok (.ifCond .eq 5, 3) := by decide +kernel
theorem dX3_lineOfName_31 : decode cX3_lineOfName 31 = .ok (.iconst 3, 1) := by decide +kernel
theorem dX3_lineOfName_32 : decode cX3_lineOfName 32 = .ok (.ireturn, 1) := by decide +kernel
theorem dX3_lineOfName_33 : decode cX3_lineOfName 33 = .ok (.aload_n 0, 1) := by decide +kernel
theorem dX3_lineOfName_34 : decode cX3_lineOfName 34 = .ok (.ldc 124, 2) := by decide +kernel
theorem dX3_lineOfName_36 : decode cX3_lineOfName 36 = .ok (.invokevirtual 116, 3) := by decide +kernel
theorem dX3_lineOfName_39 : decode cX3_lineOfName 39 = .ok (.ifCond .eq 5, 3) := by decide +kernel
theorem dX3_lineOfName_42 : decode cX3_lineOfName 42 = .ok (.iconst 4, 1) := by decide +kernel
theorem dX3_lineOfName_43 : decode cX3_lineOfName 43 = .ok (.ireturn, 1) := by decide +kernel
theorem dX3_lineOfName_44 : decode cX3_lineOfName 44 = .ok (.aload_n 0, 1) := by decide +kernel
theorem dX3_lineOfName_45 : decode cX3_lineOfName 45 = .ok (.ldc 126, 2) := by decide +kernel
theorem dX3_lineOfName_47 : decode cX3_lineOfName 47 = .ok (.invokevirtual 116, 3) := by decide +kernel
theorem dX3_lineOfName_50 : decode cX3_lineOfName 50 = .ok (.ifCond .eq 7, 3) := by decide +kernel
theorem dX3_lineOfName_53 : decode cX3_lineOfName 53 = .ok (.iconst 5, 1) := by decide +kernel
theorem dX3_lineOfName_54 : decode cX3_lineOfName 54 = .ok (.goto 4, 3) := by decide +kernel
theorem dX3_lineOfName_57 : decode cX3_lineOfName 57 = .ok (.iconst 0, 1) := by decide +kernel
theorem dX3_lineOfName_58 : decode cX3_lineOfName 58 = .ok (.ireturn, 1) := by decide +kernel
theorem dX3_nameIs_0 : decode cX3_nameIs 0 = .ok (.aload_n 0, 1) := by decide +kernel
theorem dX3_nameIs_1 : decode cX3_nameIs 1 = .ok (.getfield 26, 3) := by decide +kernel
theorem dX3_nameIs_4 : decode cX3_nameIs 4 = .ok (.aload_n 0, 1) := by decide +kernel
theorem dX3_nameIs_5 : decode cX3_nameIs 5 = .ok (.getfield 69, 3) := by decide +kernel
theorem dX3_nameIs_8 : decode cX3_nameIs 8 = .ok (.isub, 1) := by decide +kernel
theorem dX3_nameIs_9 : decode cX3_nameIs 9 = .ok (.aload_n 1, 1) := by decide +kernel
theorem dX3_nameIs_10 : decode cX3_nameIs 10 = .ok (.invokevirtual 128, 3) := by decide +kernel
theorem dX3_nameIs_13 : decode cX3_nameIs 13 = .ok (.if_icmp .eq 5, 3) := by decide +kernel
theorem dX3_nameIs_16 : decode cX3_nameIs 16 = .ok (.iconst 0, 1) := by decide +kernel
theorem dX3_nameIs_17 : decode cX3_nameIs 17 = .ok (.ireturn, 1) := by decide +kernel
theorem dX3_nameIs_18 : decode cX3_nameIs 18 = .ok (.iconst 0, 1) := by decide +kernel
theorem dX3_nameIs_19 : decode cX3_nameIs 19 = .ok (.istore_n 2, 1) := by decide +kernel
theorem dX3_nameIs_20 : decode cX3_nameIs 20 = .ok (.iload_n 2, 1) := by decide +kernel
theorem dX3_nameIs_21 : decode cX3_nameIs 21 = .ok (.aload_n 1, 1) := by decide +kernel
theorem dX3_nameIs_22 : decode cX3_nameIs 22 = .ok (.invokevirtual 128, 3) := by decide +kernel
theorem dX3_nameIs_25 : decode cX3_nameIs 25 = .ok (.if_icmp .ge 30, 3) := by decide +kernel
theorem dX3_nameIs_28 : decode cX3_nameIs 28 = .ok (.aload_n 0, 1) := by decide +kernel
theorem dX3_nameIs_29 : decode cX3_nameIs 29 = .ok (.getfield 9, 3) := by decide +kernel
theorem dX3_nameIs_32 : decode cX3_nameIs 32 = .ok (.aload_n 0, 1) := by decide +kernel
theorem dX3_nameIs_33 : decode cX3_nameIs 33 = .ok (.getfield 69, 3) := by decide +kernel
theorem dX3_nameIs_36 : decode cX3_nameIs 36 = .ok (.iload_n 2, 1) := by decide +kernel
theorem dX3_nameIs_37 : decode cX3_nameIs 37 = .ok (.iadd, 1) := by decide +kernel
theorem dX3_nameIs_38 : decode cX3_nameIs 38 = .ok (.baload, 1) := by decide +kernel
theorem dX3_nameIs_39 : decode cX3_nameIs 39 = .ok (.aload_n 1, 1) := by decide +kernel
theorem dX3_nameIs_40 : decode cX3_nameIs 40 = .ok (.iload_n 2, 1) := by decide +kernel
theorem dX3_nameIs_41 : decode cX3_nameIs 41 = .ok (.invokevirtual 133, 3) := by decide +kernel
theorem dX3_nameIs_44 : decode cX3_nameIs 44 = .ok (.if_icmp .eq 5, 3) := by decide +kernel
theorem dX3_nameIs_47 : decode cX3_nameIs 47 = .ok (.iconst 0, 1) := by decide +kernel
theorem dX3_nameIs_48 : decode cX3_nameIs 48 = .ok (.ireturn, 1) := by decide +kernel
theorem dX3_nameIs_49 : decode cX3_nameIs 49 = .ok (.iinc 2 1, 3) := by decide +kernel
theorem dX3_nameIs_52 : decode cX3_nameIs 52 = .ok (.goto (-32), 3) := by decide +kernel
theorem dX3_nameIs_55 : decode cX3_nameIs 55 = .ok (.iconst 1, 1) := by decide +kernel
theorem dX3_nameIs_56 : decode cX3_nameIs 56 = .ok (.ireturn, 1) := by decide +kernel
theorem dX3_stopAt_0 : decode cX3_stopAt 0 = .ok (.aload_n 0, 1) := by decide +kernel
theorem dX3_stopAt_1 : decode cX3_stopAt 1 = .ok (.iload_n 1, 1) := by decide +kernel
theorem dX3_stopAt_2 : decode cX3_stopAt 2 = .ok (.putfield 36, 3) := by decide +kernel
theorem dX3_stopAt_5 : decode cX3_stopAt 5 = .ok (.aload_n 0, 1) := by decide +kernel
theorem dX3_stopAt_6 : decode cX3_stopAt 6 = .ok (.iload_n 2, 1) := by decide +kernel
theorem dX3_stopAt_7 : decode cX3_stopAt 7 = .ok (.putfield 39, 3) := by decide +kernel
theorem dX3_stopAt_10 : decode cX3_stopAt 10 = .ok (.iconst 0, 1) := by decide +kernel
theorem dX3_stopAt_11 : decode cX3_stopAt 11 = .ok (.ireturn, 1) := by decide +kernel
end
section
theorem dX4_init_0 : decode cX4_init 0 = .ok (.aload_n 0, 1) := by decide +kernel
theorem dX4_init_1 : decode cX4_init 1 = .ok (.invokespecial 5, 3) := by decide +kernel
theorem dX4_init_4 : decode cX4_init 4 = .ok (.aload_n 0, 1) := by decide +kernel
theorem dX4_init_5 : decode cX4_init 5 = .ok (.new 11, 3) := by decide +kernel
theorem dX4_init_8 : decode cX4_init 8 = .ok (.dup, 1) := by decide +kernel
theorem dX4_init_9 : decode cX4_init 9 = .ok (.invokespecial 13, 3) := by decide +kernel
theorem dX4_init_12 : decode cX4_init 12 = .ok (.putfield 14, 3) := by decide +kernel
theorem dX4_init_15 : decode cX4_init 15 = .ok (.aload_n 0, 1) := by decide +kernel
theorem dX4_init_16 : decode cX4_init 16 = .ok (.new 18, 3) := by decide +kernel
theorem dX4_init_19 : decode cX4_init 19 = .ok (.dup, 1) := by decide +kernel
theorem dX4_init_20 : decode cX4_init 20 = .ok (.invokespecial 20, 3) := by decide +kernel
theorem dX4_init_23 : decode cX4_init 23 = .ok (.putfield 21, 3) := by decide +kernel
theorem dX4_init_26 : decode cX4_init 26 = .ok (.aload_n 0, 1) := by decide +kernel
theorem dX4_init_27 : decode cX4_init 27 = .ok (.iconst 5, 1) := by decide +kernel
theorem dX4_init_28 : decode cX4_init 28 = .ok (.newarray .int, 2) := by decide +kernel
theorem dX4_init_30 : decode cX4_init 30 = .ok (.putfield 25, 3) := by decide +kernel
theorem dX4_init_33 : decode cX4_init 33 = .ok (.aload_n 0, 1) := by decide +kernel
theorem dX4_init_34 : decode cX4_init 34 = .ok (.iconst 5, 1) := by decide +kernel
theorem dX4_init_35 : decode cX4_init 35 = .ok (.newarray .int, 2) := by decide +kernel
theorem dX4_init_37 : decode cX4_init 37 = .ok (.putfield 29, 3) := by decide +kernel
theorem dX4_init_40 : decode cX4_init 40 = .ok (.aload_n 0, 1) := by decide +kernel
theorem dX4_init_41 : decode cX4_init 41 = .ok (.iconst 4, 1) := by decide +kernel
theorem dX4_init_42 : decode cX4_init 42 = .ok (.newarray .int, 2) := by decide +kernel
theorem dX4_init_44 : decode cX4_init 44 = .ok (.putfield 32, 3) := by decide +kernel
theorem dX4_init_47 : decode cX4_init 47 = .ok (.return_, 1) := by decide +kernel
theorem dX4_rankAt_0 : decode cX4_rankAt 0 = .ok (.aload_n 0, 1) := by decide +kernel
theorem dX4_rankAt_1 : decode cX4_rankAt 1 = .ok (.aload_n 1, 1) := by decide +kernel
theorem dX4_rankAt_2 : decode cX4_rankAt 2 = .ok (.iload_n 2, 1) := by decide +kernel
theorem dX4_rankAt_3 : decode cX4_rankAt 3 = .ok (.iconst 1, 1) := by decide +kernel
theorem dX4_rankAt_4 : decode cX4_rankAt 4 = .ok (.invokevirtual 35, 3) := by decide +kernel
theorem dX4_rankAt_7 : decode cX4_rankAt 7 = .ok (.aload_n 0, 1) := by decide +kernel
theorem dX4_rankAt_8 : decode cX4_rankAt 8 = .ok (.getfield 21, 3) := by decide +kernel
theorem dX4_rankAt_11 : decode cX4_rankAt 11 = .ok (.invokevirtual 39, 3) := by decide +kernel
theorem dX4_rankAt_14 : decode cX4_rankAt 14 = .ok (.ireturn, 1) := by decide +kernel
theorem dX4_nullsOf_0 : decode cX4_nullsOf 0 = .ok (.aload_n 0, 1) := by decide +kernel
theorem dX4_nullsOf_1 : decode cX4_nullsOf 1 = .ok (.getfield 21, 3) := by decide +kernel
theorem dX4_nullsOf_4 : decode cX4_nullsOf 4 = .ok (.aload_n 1, 1) := by decide +kernel
theorem dX4_nullsOf_5 : decode cX4_nullsOf 5 = .ok (.iload_n 2, 1) := by decide +kernel
theorem dX4_nullsOf_6 : decode cX4_nullsOf 6 = .ok (.iconst 2, 1) := by decide +kernel
theorem dX4_nullsOf_7 : decode cX4_nullsOf 7 = .ok (.iadd, 1) := by decide +kernel
theorem dX4_nullsOf_8 : decode cX4_nullsOf 8 = .ok (.iload_n 2, 1) := by decide +kernel
theorem dX4_nullsOf_9 : decode cX4_nullsOf 9 = .ok (.iconst 1, 1) := by decide +kernel
theorem dX4_nullsOf_10 : decode cX4_nullsOf 10 = .ok (.iadd, 1) := by decide +kernel
theorem dX4_nullsOf_11 : decode cX4_nullsOf 11 = .ok (.invokevirtual 43, 3) := by decide +kernel
theorem dX4_nullsOf_14 : decode cX4_nullsOf 14 = .ok (.iconst 0, 1) := by decide +kernel
theorem dX4_nullsOf_15 : decode cX4_nullsOf 15 = .ok (.istore_n 3, 1) := by decide +kernel
theorem dX4_nullsOf_16 : decode cX4_nullsOf 16 = .ok (.iload_n 3, 1) := by decide +kernel
theorem dX4_nullsOf_17 : decode cX4_nullsOf 17 = .ok (.iload_n 2, 1) := by decide +kernel
theorem dX4_nullsOf_18 : decode cX4_nullsOf 18 = .ok (.if_icmp .gt 35, 3) := by decide +kernel
theorem dX4_nullsOf_21 : decode cX4_nullsOf 21 = .ok (.aload_n 0, 1) := by decide +kernel
theorem dX4_nullsOf_22 : decode cX4_nullsOf 22 = .ok (.getfield 21, 3) := by decide +kernel
theorem dX4_nullsOf_25 : decode cX4_nullsOf 25 = .ok (.aload_n 1, 1) := by decide +kernel
theorem dX4_nullsOf_26 : decode cX4_nullsOf 26 = .ok (.iload_n 3, 1) := by decide +kernel
theorem dX4_nullsOf_27 : decode cX4_nullsOf 27 = .ok (.iload_n 3, 1) := by decide +kernel
theorem dX4_nullsOf_28 : decode cX4_nullsOf 28 = .ok (.iconst 1, 1) := by decide +kernel
theorem dX4_nullsOf_29 : decode cX4_nullsOf 29 = .ok (.iconst 0, 1) := by decide +kernel
theorem dX4_nullsOf_30 : decode cX4_nullsOf 30 = .ok (.invokevirtual 46, 3) := by decide +kernel
theorem dX4_nullsOf_33 : decode cX4_nullsOf 33 = .ok (.aload_n 0, 1) := by decide +kernel
theorem dX4_nullsOf_34 : decode cX4_nullsOf 34 = .ok (.getfield 21, 3) := by decide +kernel
theorem dX4_nullsOf_37 : decode cX4_nullsOf 37 = .ok (.aload_n 1, 1) := by decide +kernel
theorem dX4_nullsOf_38 : decode cX4_nullsOf 38 = .ok (.iload_n 3, 1) := by decide +kernel
theorem dX4_nullsOf_39 : decode cX4_nullsOf 39 = .ok (.iconst 1, 1) := by decide +kernel
theorem dX4_nullsOf_40 : decode cX4_nullsOf 40 = .ok (.iadd, 1) := by decide +kernel
theorem dX4_nullsOf_41 : decode cX4_nullsOf 41 = .ok (.iload_n 3, 1) := by decide +kernel
theorem dX4_nullsOf_42 : decode cX4_nullsOf 42 = .ok (.iconst 0, 1) := by decide +kernel
theorem dX4_nullsOf_43 : decode cX4_nullsOf 43 = .ok (.iconst (-1), 1) := by decide +kernel
theorem dX4_nullsOf_44 : decode cX4_nullsOf 44 = .ok (.invokevirtual 46, 3) := by decide +kernel
theorem dX4_nullsOf_47 : decode cX4_nullsOf 47 = .ok (.iinc 3 1, 3) := by decide +kernel
theorem dX4_nullsOf_50 : decode cX4_nullsOf 50 = .ok (.goto (-34), 3) := by decide +kernel
theorem dX4_nullsOf_53 : decode cX4_nullsOf 53 = .ok (.aload_n 0, 1) := by decide +kernel
theorem dX4_nullsOf_54 : decode cX4_nullsOf 54 = .ok (.getfield 21, 3) := by decide +kernel
theorem dX4_nullsOf_57 : decode cX4_nullsOf 57 = .ok (.getfield 50, 3) := by decide +kernel
theorem dX4_nullsOf_60 : decode cX4_nullsOf 60 = .ok (.aload_n 0, 1) := by decide +kernel
theorem dX4_nullsOf_61 : decode cX4_nullsOf 61 = .ok (.getfield 21, 3) := by decide +kernel
theorem dX4_nullsOf_64 : decode cX4_nullsOf 64 = .ok (.invokevirtual 39, 3) := by decide +kernel
theorem dX4_nullsOf_67 : decode cX4_nullsOf 67 = .ok (.isub, 1) := by decide +kernel
theorem dX4_nullsOf_68 : decode cX4_nullsOf 68 = .ok (.ireturn, 1) := by decide +kernel
theorem dX4_chainsAt_0 : decode cX4_chainsAt 0 = .ok (.aload_n 0, 1) := by decide +kernel
theorem dX4_chainsAt_1 : decode cX4_chainsAt 1 = .ok (.aload_n 1, 1) := by decide +kernel
theorem dX4_chainsAt_2 : decode cX4_chainsAt 2 = .ok (.iload_n 2, 1) := by decide +kernel
theorem dX4_chainsAt_3 : decode cX4_chainsAt 3 = .ok (.iload_n 3, 1) := by decide +kernel
theorem dX4_chainsAt_4 : decode cX4_chainsAt 4 = .ok (.invokevirtual 35, 3) := by decide +kernel
theorem dX4_chainsAt_7 : decode cX4_chainsAt 7 = .ok (.aload_n 0, 1) := by decide +kernel
theorem dX4_chainsAt_8 : decode cX4_chainsAt 8 = .ok (.getfield 21, 3) := by decide +kernel
theorem dX4_chainsAt_11 : decode cX4_chainsAt 11 = .ok (.getfield 50, 3) := by decide +kernel
theorem dX4_chainsAt_14 : decode cX4_chainsAt 14 = .ok (.aload_n 0, 1) := by decide +kernel
theorem dX4_chainsAt_15 : decode cX4_chainsAt 15 = .ok (.getfield 21, 3) := by decide +kernel
theorem dX4_chainsAt_18 : decode cX4_chainsAt 18 = .ok (.invokevirtual 39, 3) := by decide +kernel
theorem dX4_chainsAt_21 : decode cX4_chainsAt 21 = .ok (.isub, 1) := by decide +kernel
theorem dX4_chainsAt_22 : decode cX4_chainsAt 22 = .ok (.ireturn, 1) := by decide +kernel
theorem dX4_stepsOf_0 : decode cX4_stepsOf 0 = .ok (.aload_n 0, 1) := by decide +kernel
theorem dX4_stepsOf_1 : decode cX4_stepsOf 1 = .ok (.getfield 21, 3) := by decide +kernel
theorem dX4_stepsOf_4 : decode cX4_stepsOf 4 = .ok (.aload_n 1, 1) := by decide +kernel
theorem dX4_stepsOf_5 : decode cX4_stepsOf 5 = .ok (.iload_n 2, 1) := by decide +kernel
theorem dX4_stepsOf_6 : decode cX4_stepsOf 6 = .ok (.iload_n 2, 1) := by decide +kernel
theorem dX4_stepsOf_7 : decode cX4_stepsOf 7 = .ok (.iconst 1, 1) := by decide +kernel
theorem dX4_stepsOf_8 : decode cX4_stepsOf 8 = .ok (.iadd, 1) := by decide +kernel
theorem dX4_stepsOf_9 : decode cX4_stepsOf 9 = .ok (.invokevirtual 43, 3) := by decide +kernel
theorem dX4_stepsOf_12 : decode cX4_stepsOf 12 = .ok (.iconst 0, 1) := by decide +kernel
theorem dX4_stepsOf_13 : decode cX4_stepsOf 13 = .ok (.istore_n 3, 1) := by decide +kernel
theorem dX4_stepsOf_14 : decode cX4_stepsOf 14 = .ok (.iload_n 3, 1) := by decide +kernel
theorem dX4_stepsOf_15 : decode cX4_stepsOf 15 = .ok (.iload_n 2, 1) := by decide +kernel
theorem dX4_stepsOf_16 : decode cX4_stepsOf 16 = .ok (.if_icmp .ge 35, 3) := by decide +kernel
theorem dX4_stepsOf_19 : decode cX4_stepsOf 19 = .ok (.aload_n 0, 1) := by decide +kernel
theorem dX4_stepsOf_20 : decode cX4_stepsOf 20 = .ok (.getfield 21, 3) := by decide +kernel
theorem dX4_stepsOf_23 : decode cX4_stepsOf 23 = .ok (.aload_n 1, 1) := by decide +kernel
theorem dX4_stepsOf_24 : decode cX4_stepsOf 24 = .ok (.iload_n 3, 1) := by decide +kernel
theorem dX4_stepsOf_25 : decode cX4_stepsOf 25 = .ok (.iload_n 3, 1) := by decide +kernel
theorem dX4_stepsOf_26 : decode cX4_stepsOf 26 = .ok (.iconst (-1), 1) := by decide +kernel
theorem dX4_stepsOf_27 : decode cX4_stepsOf 27 = .ok (.iconst 0, 1) := by decide +kernel
theorem dX4_stepsOf_28 : decode cX4_stepsOf 28 = .ok (.invokevirtual 46, 3) := by decide +kernel
theorem dX4_stepsOf_31 : decode cX4_stepsOf 31 = .ok (.aload_n 0, 1) := by decide +kernel
theorem dX4_stepsOf_32 : decode cX4_stepsOf 32 = .ok (.getfield 21, 3) := by decide +kernel
theorem dX4_stepsOf_35 : decode cX4_stepsOf 35 = .ok (.aload_n 1, 1) := by decide +kernel
theorem dX4_stepsOf_36 : decode cX4_stepsOf 36 = .ok (.iload_n 3, 1) := by decide +kernel
theorem dX4_stepsOf_37 : decode cX4_stepsOf 37 = .ok (.iload_n 3, 1) := by decide +kernel
theorem dX4_stepsOf_38 : decode cX4_stepsOf 38 = .ok (.iconst 1, 1) := by decide +kernel
theorem dX4_stepsOf_39 : decode cX4_stepsOf 39 = .ok (.iadd, 1) := by decide +kernel
theorem dX4_stepsOf_40 : decode cX4_stepsOf 40 = .ok (.iconst 0, 1) := by decide +kernel
theorem dX4_stepsOf_41 : decode cX4_stepsOf 41 = .ok (.iconst 1, 1) := by decide +kernel
theorem dX4_stepsOf_42 : decode cX4_stepsOf 42 = .ok (.invokevirtual 46, 3) := by decide +kernel
theorem dX4_stepsOf_45 : decode cX4_stepsOf 45 = .ok (.iinc 3 1, 3) := by decide +kernel
theorem dX4_stepsOf_48 : decode cX4_stepsOf 48 = .ok (.goto (-34), 3) := by decide +kernel
theorem dX4_stepsOf_51 : decode cX4_stepsOf 51 = .ok (.aload_n 0, 1) := by decide +kernel
theorem dX4_stepsOf_52 : decode cX4_stepsOf 52 = .ok (.getfield 21, 3) := by decide +kernel
theorem dX4_stepsOf_55 : decode cX4_stepsOf 55 = .ok (.getfield 50, 3) := by decide +kernel
theorem dX4_stepsOf_58 : decode cX4_stepsOf 58 = .ok (.aload_n 0, 1) := by decide +kernel
theorem dX4_stepsOf_59 : decode cX4_stepsOf 59 = .ok (.getfield 21, 3) := by decide +kernel
theorem dX4_stepsOf_62 : decode cX4_stepsOf 62 = .ok (.invokevirtual 39, 3) := by decide +kernel
theorem dX4_stepsOf_65 : decode cX4_stepsOf 65 = .ok (.isub, 1) := by decide +kernel
theorem dX4_stepsOf_66 : decode cX4_stepsOf 66 = .ok (.ireturn, 1) := by decide +kernel
theorem dX4_goersOf_0 : decode cX4_goersOf 0 = .ok (.aload_n 0, 1) := by decide +kernel
theorem dX4_goersOf_1 : decode cX4_goersOf 1 = .ok (.aload_n 1, 1) := by decide +kernel
theorem dX4_goersOf_2 : decode cX4_goersOf 2 = .ok (.iload_n 2, 1) := by decide +kernel
theorem dX4_goersOf_3 : decode cX4_goersOf 3 = .ok (.invokevirtual 54, 3) := by decide +kernel
theorem dX4_goersOf_6 : decode cX4_goersOf 6 = .ok (.aload_n 0, 1) := by decide +kernel
theorem dX4_goersOf_7 : decode cX4_goersOf 7 = .ok (.aload_n 1, 1) := by decide +kernel
theorem dX4_goersOf_8 : decode cX4_goersOf 8 = .ok (.aload_n 1, 1) := by decide +kernel
theorem dX4_goersOf_9 : decode cX4_goersOf 9 = .ok (.getfield 58, 3) := by decide +kernel
theorem dX4_goersOf_12 : decode cX4_goersOf 12 = .ok (.iload_n 2, 1) := by decide +kernel
theorem dX4_goersOf_13 : decode cX4_goersOf 13 = .ok (.invokevirtual 61, 3) := by decide +kernel
theorem dX4_goersOf_16 : decode cX4_goersOf 16 = .ok (.isub, 1) := by decide +kernel
theorem dX4_goersOf_17 : decode cX4_goersOf 17 = .ok (.ireturn, 1) := by decide +kernel
theorem dX4_takeColumn_0 : decode cX4_takeColumn 0 = .ok (.iload_n 2, 1) := by decide +kernel
theorem dX4_takeColumn_1 : decode cX4_takeColumn 1 = .ok (.ifCond .ge 5, 3) := by decide +kernel
theorem dX4_takeColumn_4 : decode cX4_takeColumn 4 = .ok (.iconst 0, 1) := by decide +kernel
theorem dX4_takeColumn_5 : decode cX4_takeColumn 5 = .ok (.ireturn, 1) := by decide +kernel
theorem dX4_takeColumn_6 : decode cX4_takeColumn 6 = .ok (.iload_n 2, 1) := by decide +kernel
theorem dX4_takeColumn_7 : decode cX4_takeColumn 7 = .ok (.istore_n 3, 1) := by decide +kernel
theorem dX4_takeColumn_8 : decode cX4_takeColumn 8 = .ok (.iconst 0, 1) := by decide +kernel
theorem dX4_takeColumn_9 : decode cX4_takeColumn 9 = .ok (.istore 4, 2) := by decide +kernel
theorem dX4_takeColumn_11 : decode cX4_takeColumn 11 = .ok (.iload 4, 2) := by decide +kernel
theorem dX4_takeColumn_13 : decode cX4_takeColumn 13 = .ok (.aload_n 1, 1) := by decide +kernel
theorem dX4_takeColumn_14 : decode cX4_takeColumn 14 = .ok (.getfield 65, 3) := by decide +kernel
theorem dX4_takeColumn_17 : decode cX4_takeColumn 17 = .ok (.if_icmp .ge 47, 3) := by decide +kernel
theorem dX4_takeColumn_20 : decode cX4_takeColumn 20 = .ok (.iload 4, 2) := by decide +kernel
theorem dX4_takeColumn_22 : decode cX4_takeColumn 22 = .ok (.iconst 4, 1) := by decide +kernel
theorem dX4_takeColumn_23 : decode cX4_takeColumn 23 = .ok (.if_icmp .ge 41, 3) := by decide +kernel
theorem dX4_takeColumn_26 : decode cX4_takeColumn 26 = .ok (.aload_n 0, 1) := by decide +kernel
theorem dX4_takeColumn_27 : decode cX4_takeColumn 27 = .ok (.getfield 32, 3) := by decide +kernel
theorem dX4_takeColumn_30 : decode cX4_takeColumn 30 = .ok (.iload 4, 2) := by decide +kernel
theorem dX4_takeColumn_32 : decode cX4_takeColumn 32 = .ok (.iload_n 3, 1) := by decide +kernel
theorem dX4_takeColumn_33 : decode cX4_takeColumn 33 = .ok (.bipush 10, 2) := by decide +kernel
theorem dX4_takeColumn_35 : decode cX4_takeColumn 35 = .ok (.irem, 1) := by decide +kernel
theorem dX4_takeColumn_36 : decode cX4_takeColumn 36 = .ok (.iastore, 1) := by decide +kernel
theorem dX4_takeColumn_37 : decode cX4_takeColumn 37 = .ok (.iload_n 3, 1) := by decide +kernel
theorem dX4_takeColumn_38 : decode cX4_takeColumn 38 = .ok (.bipush 10, 2) := by decide +kernel
theorem dX4_takeColumn_40 : decode cX4_takeColumn 40 = .ok (.idiv, 1) := by decide +kernel
theorem dX4_takeColumn_41 : decode cX4_takeColumn 41 = .ok (.istore_n 3, 1) := by decide +kernel
theorem dX4_takeColumn_42 : decode cX4_takeColumn 42 = .ok (.aload_n 0, 1) := by decide +kernel
theorem dX4_takeColumn_43 : decode cX4_takeColumn 43 = .ok (.getfield 32, 3) := by decide +kernel
theorem dX4_takeColumn_46 : decode cX4_takeColumn 46 = .ok (.iload 4, 2) := by decide +kernel
theorem dX4_takeColumn_48 : decode cX4_takeColumn 48 = .ok (.iaload, 1) := by decide +kernel
theorem dX4_takeColumn_49 : decode cX4_takeColumn 49 = .ok (.aload_n 1, 1) := by decide +kernel
theorem dX4_takeColumn_50 : decode cX4_takeColumn 50 = .ok (.getfield 58, 3) := by decide +kernel
theorem dX4_takeColumn_53 : decode cX4_takeColumn 53 = .ok (.if_icmp .lt 5, 3) := by decide +kernel
theorem dX4_takeColumn_56 : decode cX4_takeColumn 56 = .ok (.iconst 0, 1) := by decide +kernel
theorem dX4_takeColumn_57 : decode cX4_takeColumn 57 = .ok (.ireturn, 1) := by decide +kernel
theorem dX4_takeColumn_58 : decode cX4_takeColumn 58 = .ok (.iinc 4 1, 3) := by decide +kernel
theorem dX4_takeColumn_61 : decode cX4_takeColumn 61 = .ok (.goto (-50), 3) := by decide +kernel
theorem dX4_takeColumn_64 : decode cX4_takeColumn 64 = .ok (.iload_n 3, 1) := by decide +kernel
theorem dX4_takeColumn_65 : decode cX4_takeColumn 65 = .ok (.ifCond .ne 7, 3) := by decide +kernel
theorem dX4_takeColumn_68 : decode cX4_takeColumn 68 = .ok (.iconst 1, 1) := by decide +kernel
theorem dX4_takeColumn_69 : decode cX4_takeColumn 69 = .ok (.goto 4, 3) := by decide +kernel
theorem dX4_takeColumn_72 : decode cX4_takeColumn 72 = .ok (.iconst 0, 1) := by decide +kernel
theorem dX4_takeColumn_73 : decode cX4_takeColumn 73 = .ok (.ireturn, 1) := by decide +kernel
theorem dX4_columnCanGo_0 : decode cX4_columnCanGo 0 = .ok (.aload_n 0, 1) := by decide +kernel
theorem dX4_columnCanGo_1 : decode cX4_columnCanGo 1 = .ok (.aload_n 1, 1) := by decide +kernel
theorem dX4_columnCanGo_2 : decode cX4_columnCanGo 2 = .ok (.aload_n 1, 1) := by decide +kernel
theorem dX4_columnCanGo_3 : decode cX4_columnCanGo 3 = .ok (.getfield 58, 3) := by decide +kernel
theorem dX4_columnCanGo_6 : decode cX4_columnCanGo 6 = .ok (.iload_n 2, 1) := by decide +kernel
theorem dX4_columnCanGo_7 : decode cX4_columnCanGo 7 = .ok (.invokevirtual 35, 3) := by decide +kernel
theorem dX4_columnCanGo_10 : decode cX4_columnCanGo 10 = .ok (.aload_n 0, 1) := by decide +kernel
theorem dX4_columnCanGo_11 : decode cX4_columnCanGo 11 = .ok (.getfield 21, 3) := by decide +kernel
theorem dX4_columnCanGo_14 : decode cX4_columnCanGo 14 = .ok (.invokevirtual 39, 3) := by decide +kernel
theorem dX4_columnCanGo_17 : decode cX4_columnCanGo 17 = .ok (.istore_n 3, 1) := by decide +kernel
theorem dX4_columnCanGo_18 : decode cX4_columnCanGo 18 = .ok (.aload_n 0, 1) := by decide +kernel
theorem dX4_columnCanGo_19 : decode cX4_columnCanGo 19 = .ok (.aload_n 1, 1) := by decide +kernel
theorem dX4_columnCanGo_20 : decode cX4_columnCanGo 20 = .ok (.aload_n 1, 1) := by decide +kernel
theorem dX4_columnCanGo_21 : decode cX4_columnCanGo 21 = .ok (.getfield 58, 3) := by decide +kernel
theorem dX4_columnCanGo_24 : decode cX4_columnCanGo 24 = .ok (.iload_n 2, 1) := by decide +kernel
theorem dX4_columnCanGo_25 : decode cX4_columnCanGo 25 = .ok (.invokevirtual 35, 3) := by decide +kernel
theorem dX4_columnCanGo_28 : decode cX4_columnCanGo 28 = .ok (.iload_n 2, 1) := by decide +kernel
theorem dX4_columnCanGo_29 : decode cX4_columnCanGo 29 = .ok (.ifCond .le 15, 3) := by decide +kernel
theorem dX4_columnCanGo_32 : decode cX4_columnCanGo 32 = .ok (.aload_n 0, 1) := by decide +kernel
theorem dX4_columnCanGo_33 : decode cX4_columnCanGo 33 = .ok (.getfield 21, 3) := by decide +kernel
theorem dX4_columnCanGo_36 : decode cX4_columnCanGo 36 = .ok (.aload_n 1, 1) := by decide +kernel
theorem dX4_columnCanGo_37 : decode cX4_columnCanGo 37 = .ok (.aload_n 0, 1) := by decide +kernel
theorem dX4_columnCanGo_38 : decode cX4_columnCanGo 38 = .ok (.getfield 32, 3) := by decide +kernel
theorem dX4_columnCanGo_41 : decode cX4_columnCanGo 41 = .ok (.invokevirtual 68, 3) := by decide +kernel
theorem dX4_columnCanGo_44 : decode cX4_columnCanGo 44 = .ok (.aload_n 0, 1) := by decide +kernel
theorem dX4_columnCanGo_45 : decode cX4_columnCanGo 45 = .ok (.getfield 21, 3) := by decide +kernel
theorem dX4_columnCanGo_48 : decode cX4_columnCanGo 48 = .ok (.invokevirtual 39, 3) := by decide +kernel
theorem dX4_columnCanGo_51 : decode cX4_columnCanGo 51 = .ok (.iload_n 3, 1) := by decide +kernel
theorem dX4_columnCanGo_52 : decode cX4_columnCanGo 52 = .ok (.if_icmp .ne 7, 3) := by decide +kernel
theorem dX4_columnCanGo_55 : decode cX4_columnCanGo 55 = .ok (.iconst 1, 1) := by decide +kernel
theorem dX4_columnCanGo_56 : decode cX4_columnCanGo 56 = .ok (.goto 4, 3) := by decide +kernel
theorem dX4_columnCanGo_59 : decode cX4_columnCanGo 59 = .ok (.iconst 0, 1) := by decide +kernel
theorem dX4_columnCanGo_60 : decode cX4_columnCanGo 60 = .ok (.ireturn, 1) := by decide +kernel
theorem dX4_colIndex_0 : decode cX4_colIndex 0 = .ok (.aload_n 0, 1) := by decide +kernel
theorem dX4_colIndex_1 : decode cX4_colIndex 1 = .ok (.aload_n 1, 1) := by decide +kernel
theorem dX4_colIndex_2 : decode cX4_colIndex 2 = .ok (.aload_n 0, 1) := by decide +kernel
theorem dX4_colIndex_3 : decode cX4_colIndex 3 = .ok (.getfield 25, 3) := by decide +kernel
theorem dX4_colIndex_6 : decode cX4_colIndex 6 = .ok (.invokevirtual 72, 3) := by decide +kernel
theorem dX4_colIndex_9 : decode cX4_colIndex 9 = .ok (.pop, 1) := by decide +kernel
theorem dX4_colIndex_10 : decode cX4_colIndex 10 = .ok (.aload_n 0, 1) := by decide +kernel
theorem dX4_colIndex_11 : decode cX4_colIndex 11 = .ok (.getfield 25, 3) := by decide +kernel
theorem dX4_colIndex_14 : decode cX4_colIndex 14 = .ok (.iload_n 2, 1) := by decide +kernel
theorem dX4_colIndex_15 : decode cX4_colIndex 15 = .ok (.invokestatic 76, 3) := by decide +kernel
theorem dX4_colIndex_18 : decode cX4_colIndex 18 = .ok (.ireturn, 1) := by decide +kernel
theorem dX4_rowIndex_0 : decode cX4_rowIndex 0 = .ok (.aload_n 0, 1) := by decide +kernel
theorem dX4_rowIndex_1 : decode cX4_rowIndex 1 = .ok (.aload_n 0, 1) := by decide +kernel
theorem dX4_rowIndex_2 : decode cX4_rowIndex 2 = .ok (.aload_n 1, 1) := by decide +kernel
theorem dX4_rowIndex_3 : decode cX4_rowIndex 3 = .ok (.invokevirtual 80, 3) := by decide +kernel
theorem dX4_rowIndex_6 : decode cX4_rowIndex 6 = .ok (.aload_n 0, 1) := by decide +kernel
theorem dX4_rowIndex_7 : decode cX4_rowIndex 7 = .ok (.getfield 29, 3) := by decide +kernel
theorem dX4_rowIndex_10 : decode cX4_rowIndex 10 = .ok (.invokevirtual 72, 3) := by decide +kernel
theorem dX4_rowIndex_13 : decode cX4_rowIndex 13 = .ok (.pop, 1) := by decide +kernel
theorem dX4_rowIndex_14 : decode cX4_rowIndex 14 = .ok (.aload_n 0, 1) := by decide +kernel
theorem dX4_rowIndex_15 : decode cX4_rowIndex 15 = .ok (.getfield 29, 3) := by decide +kernel
theorem dX4_rowIndex_18 : decode cX4_rowIndex 18 = .ok (.iload_n 2, 1) := by decide +kernel
theorem dX4_rowIndex_19 : decode cX4_rowIndex 19 = .ok (.invokestatic 76, 3) := by decide +kernel
theorem dX4_rowIndex_22 : decode cX4_rowIndex 22 = .ok (.ireturn, 1) := by decide +kernel
theorem dX4_howManyCols_0 : decode cX4_howManyCols 0 = .ok (.aload_n 0, 1) := by decide +kernel
theorem dX4_howManyCols_1 : decode cX4_howManyCols 1 = .ok (.aload_n 1, 1) := by decide +kernel
theorem dX4_howManyCols_2 : decode cX4_howManyCols 2 = .ok (.aload_n 0, 1) := by decide +kernel
theorem dX4_howManyCols_3 : decode cX4_howManyCols 3 = .ok (.getfield 25, 3) := by decide +kernel
theorem dX4_howManyCols_6 : decode cX4_howManyCols 6 = .ok (.invokevirtual 72, 3) := by decide +kernel
theorem dX4_howManyCols_9 : decode cX4_howManyCols 9 = .ok (.ireturn, 1) := by decide +kernel
theorem dX4_howManyRows_0 : decode cX4_howManyRows 0 = .ok (.aload_n 0, 1) := by decide +kernel
theorem dX4_howManyRows_1 : decode cX4_howManyRows 1 = .ok (.aload_n 0, 1) := by decide +kernel
theorem dX4_howManyRows_2 : decode cX4_howManyRows 2 = .ok (.aload_n 1, 1) := by decide +kernel
theorem dX4_howManyRows_3 : decode cX4_howManyRows 3 = .ok (.invokevirtual 80, 3) := by decide +kernel
theorem dX4_howManyRows_6 : decode cX4_howManyRows 6 = .ok (.aload_n 0, 1) := by decide +kernel
theorem dX4_howManyRows_7 : decode cX4_howManyRows 7 = .ok (.getfield 29, 3) := by decide +kernel
theorem dX4_howManyRows_10 : decode cX4_howManyRows 10 = .ok (.invokevirtual 72, 3) := by decide +kernel
theorem dX4_howManyRows_13 : decode cX4_howManyRows 13 = .ok (.ireturn, 1) := by decide +kernel
theorem dX4_lengthAt_0 : decode cX4_lengthAt 0 = .ok (.aload_n 0, 1) := by decide +kernel
theorem dX4_lengthAt_1 : decode cX4_lengthAt 1 = .ok (.aload_n 1, 1) := by decide +kernel
theorem dX4_lengthAt_2 : decode cX4_lengthAt 2 = .ok (.aload_n 0, 1) := by decide +kernel
theorem dX4_lengthAt_3 : decode cX4_lengthAt 3 = .ok (.getfield 25, 3) := by decide +kernel
theorem dX4_lengthAt_6 : decode cX4_lengthAt 6 = .ok (.invokevirtual 72, 3) := by decide +kernel
theorem dX4_lengthAt_9 : decode cX4_lengthAt 9 = .ok (.istore 4, 2) := by decide +kernel
theorem dX4_lengthAt_11 : decode cX4_lengthAt 11 = .ok (.iconst 0, 1) := by decide +kernel
theorem dX4_lengthAt_12 : decode cX4_lengthAt 12 = .ok (.istore 5, 2) := by decide +kernel
theorem dX4_lengthAt_14 : decode cX4_lengthAt 14 = .ok (.iconst 0, 1) := by decide +kernel
theorem dX4_lengthAt_15 : decode cX4_lengthAt 15 = .ok (.istore 6, 2) := by decide +kernel
theorem dX4_lengthAt_17 : decode cX4_lengthAt 17 = .ok (.iconst 1, 1) := by decide +kernel
theorem dX4_lengthAt_18 : decode cX4_lengthAt 18 = .ok (.istore 7, 2) := by decide +kernel
theorem dX4_lengthAt_20 : decode cX4_lengthAt 20 = .ok (.iload 7, 2) := by decide +kernel
theorem dX4_lengthAt_22 : decode cX4_lengthAt 22 = .ok (.iconst 4, 1) := by decide +kernel
theorem dX4_lengthAt_23 : decode cX4_lengthAt 23 = .ok (.if_icmp .gt 39, 3) := by decide +kernel
theorem dX4_lengthAt_26 : decode cX4_lengthAt 26 = .ok (.aload_n 0, 1) := by decide +kernel
theorem dX4_lengthAt_27 : decode cX4_lengthAt 27 = .ok (.aload_n 1, 1) := by decide +kernel
theorem dX4_lengthAt_28 : decode cX4_lengthAt 28 = .ok (.iload_n 2, 1) := by decide +kernel
theorem dX4_lengthAt_29 : decode cX4_lengthAt 29 = .ok (.iload 7, 2) := by decide +kernel
theorem dX4_lengthAt_31 : decode cX4_lengthAt 31 = .ok (.invokevirtual 61, 3) := by decide +kernel
theorem dX4_lengthAt_34 : decode cX4_lengthAt 34 = .ok (.istore 8, 2) := by decide +kernel
theorem dX4_lengthAt_36 : decode cX4_lengthAt 36 = .ok (.iload 8, 2) := by decide +kernel
theorem dX4_lengthAt_38 : decode cX4_lengthAt 38 = .ok (.iload 6, 2) := by decide +kernel
theorem dX4_lengthAt_40 : decode cX4_lengthAt 40 = .ok (.isub, 1) := by decide +kernel
theorem dX4_lengthAt_41 : decode cX4_lengthAt 41 = .ok (.iload 4, 2) := by decide +kernel
theorem dX4_lengthAt_43 : decode cX4_lengthAt 43 = .ok (.isub, 1) := by decide +kernel
theorem dX4_lengthAt_44 : decode cX4_lengthAt 44 = .ok (.iload_n 3, 1) := by decide +kernel
theorem dX4_lengthAt_45 : decode cX4_lengthAt 45 = .ok (.if_icmp .le 7, 3) := by decide +kernel
theorem dX4_lengthAt_48 : decode cX4_lengthAt 48 = .ok (.iload 7, 2) := by decide +kernel
theorem dX4_lengthAt_50 : decode cX4_lengthAt 50 = .ok (.istore 5, 2) := by decide +kernel
theorem dX4_lengthAt_52 : decode cX4_lengthAt 52 = .ok (.iload 8, 2) := by decide +kernel
theorem dX4_lengthAt_54 : decode cX4_lengthAt 54 = .ok (.istore 6, 2) := by decide +kernel
theorem dX4_lengthAt_56 : decode cX4_lengthAt 56 = .ok (.iinc 7 1, 3) := by decide +kernel
theorem dX4_lengthAt_59 : decode cX4_lengthAt 59 = .ok (.goto (-39), 3) := by decide +kernel
theorem dX4_lengthAt_62 : decode cX4_lengthAt 62 = .ok (.iload 5, 2) := by decide +kernel
theorem dX4_lengthAt_64 : decode cX4_lengthAt 64 = .ok (.ifCond .ne 8, 3) := by decide +kernel
theorem dX4_lengthAt_67 : decode cX4_lengthAt 67 = .ok (.bipush (-4), 2) := by decide +kernel
theorem dX4_lengthAt_69 : decode cX4_lengthAt 69 = .ok (.goto 5, 3) := by decide +kernel
theorem dX4_lengthAt_72 : decode cX4_lengthAt 72 = .ok (.iload 5, 2) := by decide +kernel
theorem dX4_lengthAt_74 : decode cX4_lengthAt 74 = .ok (.ireturn, 1) := by decide +kernel
theorem dX4_lengthsFrom_0 : decode cX4_lengthsFrom 0 = .ok (.aload_n 0, 1) := by decide +kernel
theorem dX4_lengthsFrom_1 : decode cX4_lengthsFrom 1 = .ok (.aload_n 1, 1) := by decide +kernel
theorem dX4_lengthsFrom_2 : decode cX4_lengthsFrom 2 = .ok (.aload_n 0, 1) := by decide +kernel
theorem dX4_lengthsFrom_3 : decode cX4_lengthsFrom 3 = .ok (.getfield 25, 3) := by decide +kernel
theorem dX4_lengthsFrom_6 : decode cX4_lengthsFrom 6 = .ok (.invokevirtual 72, 3) := by decide +kernel
theorem dX4_lengthsFrom_9 : decode cX4_lengthsFrom 9 = .ok (.istore 4, 2) := by decide +kernel
theorem dX4_lengthsFrom_11 : decode cX4_lengthsFrom 11 = .ok (.iconst 0, 1) := by decide +kernel
theorem dX4_lengthsFrom_12 : decode cX4_lengthsFrom 12 = .ok (.istore 5, 2) := by decide +kernel
theorem dX4_lengthsFrom_14 : decode cX4_lengthsFrom 14 = .ok (.iload_n 2, 1) := by decide +kernel
theorem dX4_lengthsFrom_15 : decode cX4_lengthsFrom 15 = .ok (.istore 6, 2) := by decide +kernel
theorem dX4_lengthsFrom_17 : decode cX4_lengthsFrom 17 = .ok (.iload 6, 2) := by decide +kernel
theorem dX4_lengthsFrom_19 : decode cX4_lengthsFrom 19 = .ok (.iload_n 3, 1) := by decide +kernel
theorem dX4_lengthsFrom_20 : decode cX4_lengthsFrom 20 = .ok (.if_icmp .gt 34, 3) := by decide +kernel
theorem dX4_lengthsFrom_23 : decode cX4_lengthsFrom 23 = .ok (.iload 6, 2) := by decide +kernel
theorem dX4_lengthsFrom_25 : decode cX4_lengthsFrom 25 = .ok (.bipush 7, 2) := by decide +kernel
theorem dX4_lengthsFrom_27 : decode cX4_lengthsFrom 27 = .ok (.if_icmp .gt 27, 3) := by decide +kernel
theorem dX4_lengthsFrom_30 : decode cX4_lengthsFrom 30 = .ok (.iload 5, 2) := by decide +kernel
theorem dX4_lengthsFrom_32 : decode cX4_lengthsFrom 32 = .ok (.aload_n 0, 1) := by decide +kernel
theorem dX4_lengthsFrom_33 : decode cX4_lengthsFrom 33 = .ok (.aload_n 1, 1) := by decide +kernel
theorem dX4_lengthsFrom_34 : decode cX4_lengthsFrom 34 = .ok (.iload 6, 2) := by decide +kernel
theorem dX4_lengthsFrom_36 : decode cX4_lengthsFrom 36 = .ok (.iconst 4, 1) := by decide +kernel
theorem dX4_lengthsFrom_37 : decode cX4_lengthsFrom 37 = .ok (.invokevirtual 61, 3) := by decide +kernel
theorem dX4_lengthsFrom_40 : decode cX4_lengthsFrom 40 = .ok (.iconst 4, 1) := by decide +kernel
theorem dX4_lengthsFrom_41 : decode cX4_lengthsFrom 41 = .ok (.iload 4, 2) := by decide +kernel
theorem dX4_lengthsFrom_43 : decode cX4_lengthsFrom 43 = .ok (.imul, 1) := by decide +kernel
theorem dX4_lengthsFrom_44 : decode cX4_lengthsFrom 44 = .ok (.isub, 1) := by decide +kernel
theorem dX4_lengthsFrom_45 : decode cX4_lengthsFrom 45 = .ok (.iadd, 1) := by decide +kernel
theorem dX4_lengthsFrom_46 : decode cX4_lengthsFrom 46 = .ok (.istore 5, 2) := by decide +kernel
theorem dX4_lengthsFrom_48 : decode cX4_lengthsFrom 48 = .ok (.iinc 6 1, 3) := by decide +kernel
theorem dX4_lengthsFrom_51 : decode cX4_lengthsFrom 51 = .ok (.goto (-34), 3) := by decide +kernel
theorem dX4_lengthsFrom_54 : decode cX4_lengthsFrom 54 = .ok (.iload 5, 2) := by decide +kernel
theorem dX4_lengthsFrom_56 : decode cX4_lengthsFrom 56 = .ok (.ireturn, 1) := by decide +kernel
theorem dX4_columnsOfIndices_0 : decode cX4_columnsOfIndices 0 = .ok (.aload_n 0, 1) := by decide +kernel
theorem dX4_columnsOfIndices_1 : decode cX4_columnsOfIndices 1 = .ok (.aload_n 1, 1) := by decide +kernel
theorem dX4_columnsOfIndices_2 : decode cX4_columnsOfIndices 2 = .ok (.aload_n 0, 1) := by decide +kernel
theorem dX4_columnsOfIndices_3 : decode cX4_columnsOfIndices 3 = .ok (.getfield 25, 3) := by decide +kernel
theorem dX4_columnsOfIndices_6 : decode cX4_columnsOfIndices 6 = .ok (.invokevirtual 72, 3) := by decide +kernel
theorem dX4_columnsOfIndices_9 : decode cX4_columnsOfIndices 9 = .ok (.pop, 1) := by decide +kernel
theorem dX4_columnsOfIndices_10 : decode cX4_columnsOfIndices 10 = .ok (.aload_n 0, 1) := by decide +kernel
theorem dX4_columnsOfIndices_11 : decode cX4_columnsOfIndices 11 = .ok (.aload_n 0, 1) := by decide +kernel
theorem dX4_columnsOfIndices_12 : decode cX4_columnsOfIndices 12 = .ok (.aload_n 1, 1) := by decide +kernel
theorem dX4_columnsOfIndices_13 : decode cX4_columnsOfIndices 13 = .ok (.invokevirtual 80, 3) := by decide +kernel
theorem dX4_columnsOfIndices_16 : decode cX4_columnsOfIndices 16 = .ok (.aload_n 0, 1) := by decide +kernel
theorem dX4_columnsOfIndices_17 : decode cX4_columnsOfIndices 17 = .ok (.getfield 29, 3) := by decide +kernel
theorem dX4_columnsOfIndices_20 : decode cX4_columnsOfIndices 20 = .ok (.invokevirtual 72, 3) := by decide +kernel
theorem dX4_columnsOfIndices_23 : decode cX4_columnsOfIndices 23 = .ok (.pop, 1) := by decide +kernel
theorem dX4_columnsOfIndices_24 : decode cX4_columnsOfIndices 24 = .ok (.iconst 0, 1) := by decide +kernel
theorem dX4_columnsOfIndices_25 : decode cX4_columnsOfIndices 25 = .ok (.istore_n 2, 1) := by decide +kernel
theorem dX4_columnsOfIndices_26 : decode cX4_columnsOfIndices 26 = .ok (.iconst 0, 1) := by decide +kernel
theorem dX4_columnsOfIndices_27 : decode cX4_columnsOfIndices 27 = .ok (.istore_n 3, 1) := by decide +kernel
theorem dX4_columnsOfIndices_28 : decode cX4_columnsOfIndices 28 = .ok (.iload_n 3, 1) := by decide +kernel
theorem dX4_columnsOfIndices_29 : decode cX4_columnsOfIndices 29 = .ok (.iconst 5, 1) := by decide +kernel
theorem dX4_columnsOfIndices_30 : decode cX4_columnsOfIndices 30 = .ok (.if_icmp .ge 31, 3) := by decide +kernel
theorem dX4_columnsOfIndices_33 : decode cX4_columnsOfIndices 33 = .ok (.iload_n 2, 1) := by decide +kernel
theorem dX4_columnsOfIndices_34 : decode cX4_columnsOfIndices 34 = .ok (.iload_n 3, 1) := by decide +kernel
theorem dX4_columnsOfIndices_35 : decode cX4_columnsOfIndices 35 = .ok (.iconst 1, 1) := by decide +kernel
theorem dX4_columnsOfIndices_36 : decode cX4_columnsOfIndices 36 = .ok (.iadd, 1) := by decide +kernel
theorem dX4_columnsOfIndices_37 : decode cX4_columnsOfIndices 37 = .ok (.aload_n 0, 1) := by decide +kernel
theorem dX4_columnsOfIndices_38 : decode cX4_columnsOfIndices 38 = .ok (.getfield 25, 3) := by decide +kernel
theorem dX4_columnsOfIndices_41 : decode cX4_columnsOfIndices 41 = .ok (.iload_n 3, 1) := by decide +kernel
theorem dX4_columnsOfIndices_42 : decode cX4_columnsOfIndices 42 = .ok (.iaload, 1) := by decide +kernel
theorem dX4_columnsOfIndices_43 : decode cX4_columnsOfIndices 43 = .ok (.imul, 1) := by decide +kernel
theorem dX4_columnsOfIndices_44 : decode cX4_columnsOfIndices 44 = .ok (.iload_n 3, 1) := by decide +kernel
theorem dX4_columnsOfIndices_45 : decode cX4_columnsOfIndices 45 = .ok (.aload_n 0, 1) := by decide +kernel
theorem dX4_columnsOfIndices_46 : decode cX4_columnsOfIndices 46 = .ok (.getfield 29, 3) := by decide +kernel
theorem dX4_columnsOfIndices_49 : decode cX4_columnsOfIndices 49 = .ok (.iload_n 3, 1) := by decide +kernel
theorem dX4_columnsOfIndices_50 : decode cX4_columnsOfIndices 50 = .ok (.iaload, 1) := by decide +kernel
theorem dX4_columnsOfIndices_51 : decode cX4_columnsOfIndices 51 = .ok (.imul, 1) := by decide +kernel
theorem dX4_columnsOfIndices_52 : decode cX4_columnsOfIndices 52 = .ok (.iadd, 1) := by decide +kernel
theorem dX4_columnsOfIndices_53 : decode cX4_columnsOfIndices 53 = .ok (.iadd, 1) := by decide +kernel
theorem dX4_columnsOfIndices_54 : decode cX4_columnsOfIndices 54 = .ok (.istore_n 2, 1) := by decide +kernel
theorem dX4_columnsOfIndices_55 : decode cX4_columnsOfIndices 55 = .ok (.iinc 3 1, 3) := by decide +kernel
theorem dX4_columnsOfIndices_58 : decode cX4_columnsOfIndices 58 = .ok (.goto (-30), 3) := by decide +kernel
theorem dX4_columnsOfIndices_61 : decode cX4_columnsOfIndices 61 = .ok (.iload_n 2, 1) := by decide +kernel
theorem dX4_columnsOfIndices_62 : decode cX4_columnsOfIndices 62 = .ok (.ireturn, 1) := by decide +kernel
theorem dX4_tellForm_0 : decode cX4_tellForm 0 = .ok (.aload_n 2, 1) := by decide +kernel
theorem dX4_tellForm_1 : decode cX4_tellForm 1 = .ok (.iconst 0, 1) := by decide +kernel
theorem dX4_tellForm_2 : decode cX4_tellForm 2 = .ok (.invokestatic 84, 3) := by decide +kernel
theorem dX4_tellForm_5 : decode cX4_tellForm 5 = .ok (.aload_n 0, 1) := by decide +kernel
theorem dX4_tellForm_6 : decode cX4_tellForm 6 = .ok (.aload_n 1, 1) := by decide +kernel
theorem dX4_tellForm_7 : decode cX4_tellForm 7 = .ok (.aload_n 0, 1) := by decide +kernel
theorem dX4_tellForm_8 : decode cX4_tellForm 8 = .ok (.getfield 25, 3) := by decide +kernel
theorem dX4_tellForm_11 : decode cX4_tellForm 11 = .ok (.invokevirtual 72, 3) := by decide +kernel
theorem dX4_tellForm_14 : decode cX4_tellForm 14 = .ok (.pop, 1) := by decide +kernel
theorem dX4_tellForm_15 : decode cX4_tellForm 15 = .ok (.aload_n 0, 1) := by decide +kernel
theorem dX4_tellForm_16 : decode cX4_tellForm 16 = .ok (.aload_n 0, 1) := by decide +kernel
theorem dX4_tellForm_17 : decode cX4_tellForm 17 = .ok (.aload_n 1, 1) := by decide +kernel
theorem dX4_tellForm_18 : decode cX4_tellForm 18 = .ok (.invokevirtual 80, 3) := by decide +kernel
theorem dX4_tellForm_21 : decode cX4_tellForm 21 = .ok (.aload_n 0, 1) := by decide +kernel
theorem dX4_tellForm_22 : decode cX4_tellForm 22 = .ok (.getfield 29, 3) := by decide +kernel
theorem dX4_tellForm_25 : decode cX4_tellForm 25 = .ok (.invokevirtual 72, 3) := by decide +kernel
theorem dX4_tellForm_28 : decode cX4_tellForm 28 = .ok (.pop, 1) := by decide +kernel
theorem dX4_tellForm_29 : decode cX4_tellForm 29 = .ok (.aload_n 2, 1) := by decide +kernel
theorem dX4_tellForm_30 : decode cX4_tellForm 30 = .ok (.iconst 0, 1) := by decide +kernel
theorem dX4_tellForm_31 : decode cX4_tellForm 31 = .ok (.aload_n 1, 1) := by decide +kernel
theorem dX4_tellForm_32 : decode cX4_tellForm 32 = .ok (.getfield 58, 3) := by decide +kernel
theorem dX4_tellForm_35 : decode cX4_tellForm 35 = .ok (.invokestatic 90, 3) := by decide +kernel
theorem dX4_tellForm_38 : decode cX4_tellForm 38 = .ok (.istore_n 3, 1) := by decide +kernel
theorem dX4_tellForm_39 : decode cX4_tellForm 39 = .ok (.aload_n 2, 1) := by decide +kernel
theorem dX4_tellForm_40 : decode cX4_tellForm 40 = .ok (.iload_n 3, 1) := by decide +kernel
theorem dX4_tellForm_41 : decode cX4_tellForm 41 = .ok (.aload_n 1, 1) := by decide +kernel
theorem dX4_tellForm_42 : decode cX4_tellForm 42 = .ok (.getfield 94, 3) := by decide +kernel
theorem dX4_tellForm_45 : decode cX4_tellForm 45 = .ok (.invokestatic 90, 3) := by decide +kernel
theorem dX4_tellForm_48 : decode cX4_tellForm 48 = .ok (.istore_n 3, 1) := by decide +kernel
theorem dX4_tellForm_49 : decode cX4_tellForm 49 = .ok (.aload_n 2, 1) := by decide +kernel
theorem dX4_tellForm_50 : decode cX4_tellForm 50 = .ok (.iload_n 3, 1) := by decide +kernel
theorem dX4_tellForm_51 : decode cX4_tellForm 51 = .ok (.aload_n 1, 1) := by decide +kernel
theorem dX4_tellForm_52 : decode cX4_tellForm 52 = .ok (.getfield 65, 3) := by decide +kernel
theorem dX4_tellForm_55 : decode cX4_tellForm 55 = .ok (.invokestatic 90, 3) := by decide +kernel
theorem dX4_tellForm_58 : decode cX4_tellForm 58 = .ok (.istore_n 3, 1) := by decide +kernel
theorem dX4_tellForm_59 : decode cX4_tellForm 59 = .ok (.iconst 0, 1) := by decide +kernel
theorem dX4_tellForm_60 : decode cX4_tellForm 60 = .ok (.istore 4, 2) := by decide +kernel
theorem dX4_tellForm_62 : decode cX4_tellForm 62 = .ok (.iload 4, 2) := by decide +kernel
theorem dX4_tellForm_64 : decode cX4_tellForm 64 = .ok (.iconst 5, 1) := by decide +kernel
theorem dX4_tellForm_65 : decode cX4_tellForm 65 = .ok (.if_icmp .ge 35, 3) := by decide +kernel
theorem dX4_tellForm_68 : decode cX4_tellForm 68 = .ok (.aload_n 2, 1) := by decide +kernel
theorem dX4_tellForm_69 : decode cX4_tellForm 69 = .ok (.iload_n 3, 1) := by decide +kernel
theorem dX4_tellForm_70 : decode cX4_tellForm 70 = .ok (.aload_n 0, 1) := by decide +kernel
theorem dX4_tellForm_71 : decode cX4_tellForm 71 = .ok (.getfield 25, 3) := by decide +kernel
theorem dX4_tellForm_74 : decode cX4_tellForm 74 = .ok (.iload 4, 2) := by decide +kernel
theorem dX4_tellForm_76 : decode cX4_tellForm 76 = .ok (.iaload, 1) := by decide +kernel
theorem dX4_tellForm_77 : decode cX4_tellForm 77 = .ok (.invokestatic 90, 3) := by decide +kernel
theorem dX4_tellForm_80 : decode cX4_tellForm 80 = .ok (.istore_n 3, 1) := by decide +kernel
theorem dX4_tellForm_81 : decode cX4_tellForm 81 = .ok (.aload_n 2, 1) := by decide +kernel
theorem dX4_tellForm_82 : decode cX4_tellForm 82 = .ok (.iload_n 3, 1) := by decide +kernel
theorem dX4_tellForm_83 : decode cX4_tellForm 83 = .ok (.aload_n 0, 1) := by decide +kernel
theorem dX4_tellForm_84 : decode cX4_tellForm 84 = .ok (.getfield 29, 3) := by decide +kernel
theorem dX4_tellForm_87 : decode cX4_tellForm 87 = .ok (.iload 4, 2) := by decide +kernel
theorem dX4_tellForm_89 : decode cX4_tellForm 89 = .ok (.iaload, 1) := by decide +kernel
theorem dX4_tellForm_90 : decode cX4_tellForm 90 = .ok (.invokestatic 90, 3) := by decide +kernel
theorem dX4_tellForm_93 : decode cX4_tellForm 93 = .ok (.istore_n 3, 1) := by decide +kernel
theorem dX4_tellForm_94 : decode cX4_tellForm 94 = .ok (.iinc 4 1, 3) := by decide +kernel
theorem dX4_tellForm_97 : decode cX4_tellForm 97 = .ok (.goto (-35), 3) := by decide +kernel
theorem dX4_tellForm_100 : decode cX4_tellForm 100 = .ok (.iconst 0, 1) := by decide +kernel
theorem dX4_tellForm_101 : decode cX4_tellForm 101 = .ok (.istore 4, 2) := by decide +kernel
theorem dX4_tellForm_103 : decode cX4_tellForm 103 = .ok (.iload 4, 2) := by decide +kernel
theorem dX4_tellForm_105 : decode cX4_tellForm 105 = .ok (.aload_n 1, 1) := by decide +kernel
theorem dX4_tellForm_106 : decode cX4_tellForm 106 = .ok (.getfield 58, 3) := by decide +kernel
theorem dX4_tellForm_109 : decode cX4_tellForm 109 = .ok (.if_icmp .gt 39, 3) := by decide +kernel
theorem dX4_tellForm_112 : decode cX4_tellForm 112 = .ok (.iconst 1, 1) := by decide +kernel
theorem dX4_tellForm_113 : decode cX4_tellForm 113 = .ok (.istore 5, 2) := by decide +kernel
theorem dX4_tellForm_115 : decode cX4_tellForm 115 = .ok (.iload 5, 2) := by decide +kernel
theorem dX4_tellForm_117 : decode cX4_tellForm 117 = .ok (.iconst 4, 1) := by decide +kernel
theorem dX4_tellForm_118 : decode cX4_tellForm 118 = .ok (.if_icmp .gt 24, 3) := by decide +kernel
theorem dX4_tellForm_121 : decode cX4_tellForm 121 = .ok (.aload_n 2, 1) := by decide +kernel
theorem dX4_tellForm_122 : decode cX4_tellForm 122 = .ok (.iload_n 3, 1) := by decide +kernel
theorem dX4_tellForm_123 : decode cX4_tellForm 123 = .ok (.aload_n 0, 1) := by decide +kernel
theorem dX4_tellForm_124 : decode cX4_tellForm 124 = .ok (.aload_n 1, 1) := by decide +kernel
theorem dX4_tellForm_125 : decode cX4_tellForm 125 = .ok (.iload 4, 2) := by decide +kernel
theorem dX4_tellForm_127 : decode cX4_tellForm 127 = .ok (.iload 5, 2) := by decide +kernel
theorem dX4_tellForm_129 : decode cX4_tellForm 129 = .ok (.invokevirtual 61, 3) := by decide +kernel
theorem dX4_tellForm_132 : decode cX4_tellForm 132 = .ok (.invokestatic 90, 3) := by decide +kernel
theorem dX4_tellForm_135 : decode cX4_tellForm 135 = .ok (.istore_n 3, 1) := by decide +kernel
theorem dX4_tellForm_136 : decode cX4_tellForm 136 = .ok (.iinc 5 1, 3) := by decide +kernel
theorem dX4_tellForm_139 : decode cX4_tellForm 139 = .ok (.goto (-24), 3) := by decide +kernel
theorem dX4_tellForm_142 : decode cX4_tellForm 142 = .ok (.iinc 4 1, 3) := by decide +kernel
theorem dX4_tellForm_145 : decode cX4_tellForm 145 = .ok (.goto (-42), 3) := by decide +kernel
theorem dX4_tellForm_148 : decode cX4_tellForm 148 = .ok (.return_, 1) := by decide +kernel
theorem dX4_putChains_0 : decode cX4_putChains 0 = .ok (.iload_n 2, 1) := by decide +kernel
theorem dX4_putChains_1 : decode cX4_putChains 1 = .ok (.aload_n 1, 1) := by decide +kernel
theorem dX4_putChains_2 : decode cX4_putChains 2 = .ok (.getfield 58, 3) := by decide +kernel
theorem dX4_putChains_5 : decode cX4_putChains 5 = .ok (.if_icmp .ne 7, 3) := by decide +kernel
theorem dX4_putChains_8 : decode cX4_putChains 8 = .ok (.iconst 1, 1) := by decide +kernel
theorem dX4_putChains_9 : decode cX4_putChains 9 = .ok (.goto 4, 3) := by decide +kernel
theorem dX4_putChains_12 : decode cX4_putChains 12 = .ok (.iconst 0, 1) := by decide +kernel
theorem dX4_putChains_13 : decode cX4_putChains 13 = .ok (.istore 4, 2) := by decide +kernel
theorem dX4_putChains_15 : decode cX4_putChains 15 = .ok (.aload_n 0, 1) := by decide +kernel
theorem dX4_putChains_16 : decode cX4_putChains 16 = .ok (.getfield 21, 3) := by decide +kernel
theorem dX4_putChains_19 : decode cX4_putChains 19 = .ok (.aload_n 1, 1) := by decide +kernel
theorem dX4_putChains_20 : decode cX4_putChains 20 = .ok (.iload_n 3, 1) := by decide +kernel
theorem dX4_putChains_21 : decode cX4_putChains 21 = .ok (.iload_n 3, 1) := by decide +kernel
theorem dX4_putChains_22 : decode cX4_putChains 22 = .ok (.invokevirtual 43, 3) := by decide +kernel
theorem dX4_putChains_25 : decode cX4_putChains 25 = .ok (.iconst 0, 1) := by decide +kernel
theorem dX4_putChains_26 : decode cX4_putChains 26 = .ok (.istore 5, 2) := by decide +kernel
theorem dX4_putChains_28 : decode cX4_putChains 28 = .ok (.iload 5, 2) := by decide +kernel
theorem dX4_putChains_30 : decode cX4_putChains 30 = .ok (.iload_n 3, 1) := by decide +kernel
theorem dX4_putChains_31 : decode cX4_putChains 31 = .ok (.if_icmp .ge 81, 3) := by decide +kernel
theorem dX4_putChains_34 : decode cX4_putChains 34 = .ok (.aload_n 0, 1) := by decide +kernel
theorem dX4_putChains_35 : decode cX4_putChains 35 = .ok (.getfield 21, 3) := by decide +kernel
theorem dX4_putChains_38 : decode cX4_putChains 38 = .ok (.aload_n 1, 1) := by decide +kernel
theorem dX4_putChains_39 : decode cX4_putChains 39 = .ok (.iload 5, 2) := by decide +kernel
theorem dX4_putChains_41 : decode cX4_putChains 41 = .ok (.iload 5, 2) := by decide +kernel
theorem dX4_putChains_43 : decode cX4_putChains 43 = .ok (.iload 4, 2) := by decide +kernel
theorem dX4_putChains_45 : decode cX4_putChains 45 = .ok (.ifCond .eq 7, 3) := by decide +kernel
theorem dX4_putChains_48 : decode cX4_putChains 48 = .ok (.iconst 0, 1) := by decide +kernel
theorem dX4_putChains_49 : decode cX4_putChains 49 = .ok (.goto 4, 3) := by decide +kernel
theorem dX4_putChains_52 : decode cX4_putChains 52 = .ok (.iconst 1, 1) := by decide +kernel
theorem dX4_putChains_53 : decode cX4_putChains 53 = .ok (.iload 4, 2) := by decide +kernel
theorem dX4_putChains_55 : decode cX4_putChains 55 = .ok (.ifCond .eq 7, 3) := by decide +kernel
theorem dX4_putChains_58 : decode cX4_putChains 58 = .ok (.iconst 1, 1) := by decide +kernel
theorem dX4_putChains_59 : decode cX4_putChains 59 = .ok (.goto 5, 3) := by decide +kernel
theorem dX4_putChains_62 : decode cX4_putChains 62 = .ok (.iload_n 2, 1) := by decide +kernel
theorem dX4_putChains_63 : decode cX4_putChains 63 = .ok (.ineg, 1) := by decide +kernel
theorem dX4_putChains_64 : decode cX4_putChains 64 = .ok (.invokevirtual 46, 3) := by decide +kernel
theorem dX4_putChains_67 : decode cX4_putChains 67 = .ok (.iload 5, 2) := by decide +kernel
theorem dX4_putChains_69 : decode cX4_putChains 69 = .ok (.ifCond .le 37, 3) := by decide +kernel
theorem dX4_putChains_72 : decode cX4_putChains 72 = .ok (.aload_n 0, 1) := by decide +kernel
theorem dX4_putChains_73 : decode cX4_putChains 73 = .ok (.getfield 21, 3) := by decide +kernel
theorem dX4_putChains_76 : decode cX4_putChains 76 = .ok (.aload_n 1, 1) := by decide +kernel
theorem dX4_putChains_77 : decode cX4_putChains 77 = .ok (.iload 5, 2) := by decide +kernel
theorem dX4_putChains_79 : decode cX4_putChains 79 = .ok (.iload 5, 2) := by decide +kernel
theorem dX4_putChains_81 : decode cX4_putChains 81 = .ok (.iconst 1, 1) := by decide +kernel
theorem dX4_putChains_82 : decode cX4_putChains 82 = .ok (.isub, 1) := by decide +kernel
theorem dX4_putChains_83 : decode cX4_putChains 83 = .ok (.iload 4, 2) := by decide +kernel
theorem dX4_putChains_85 : decode cX4_putChains 85 = .ok (.ifCond .eq 7, 3) := by decide +kernel
theorem dX4_putChains_88 : decode cX4_putChains 88 = .ok (.iconst (-1), 1) := by decide +kernel
theorem dX4_putChains_89 : decode cX4_putChains 89 = .ok (.goto 4, 3) := by decide +kernel
theorem dX4_putChains_92 : decode cX4_putChains 92 = .ok (.iconst 0, 1) := by decide +kernel
theorem dX4_putChains_93 : decode cX4_putChains 93 = .ok (.iload 4, 2) := by decide +kernel
theorem dX4_putChains_95 : decode cX4_putChains 95 = .ok (.ifCond .eq 7, 3) := by decide +kernel
theorem dX4_putChains_98 : decode cX4_putChains 98 = .ok (.iconst 0, 1) := by decide +kernel
theorem dX4_putChains_99 : decode cX4_putChains 99 = .ok (.goto 4, 3) := by decide +kernel
theorem dX4_putChains_102 : decode cX4_putChains 102 = .ok (.iconst (-1), 1) := by decide +kernel
theorem dX4_putChains_103 : decode cX4_putChains 103 = .ok (.invokevirtual 46, 3) := by decide +kernel
theorem dX4_putChains_106 : decode cX4_putChains 106 = .ok (.iinc 5 1, 3) := by decide +kernel
theorem dX4_putChains_109 : decode cX4_putChains 109 = .ok (.goto (-81), 3) := by decide +kernel
theorem dX4_putChains_112 : decode cX4_putChains 112 = .ok (.return_, 1) := by decide +kernel
theorem dX4_countIndices_0 : decode cX4_countIndices 0 = .ok (.iconst 0, 1) := by decide +kernel
theorem dX4_countIndices_1 : decode cX4_countIndices 1 = .ok (.istore_n 3, 1) := by decide +kernel
theorem dX4_countIndices_2 : decode cX4_countIndices 2 = .ok (.iconst 0, 1) := by decide +kernel
theorem dX4_countIndices_3 : decode cX4_countIndices 3 = .ok (.istore 4, 2) := by decide +kernel
theorem dX4_countIndices_5 : decode cX4_countIndices 5 = .ok (.iconst 0, 1) := by decide +kernel
theorem dX4_countIndices_6 : decode cX4_countIndices 6 = .ok (.istore 5, 2) := by decide +kernel
theorem dX4_countIndices_8 : decode cX4_countIndices 8 = .ok (.iconst 0, 1) := by decide +kernel
theorem dX4_countIndices_9 : decode cX4_countIndices 9 = .ok (.istore 6, 2) := by decide +kernel
theorem dX4_countIndices_11 : decode cX4_countIndices 11 = .ok (.iload 6, 2) := by decide +kernel
theorem dX4_countIndices_13 : decode cX4_countIndices 13 = .ok (.iconst 5, 1) := by decide +kernel
theorem dX4_countIndices_14 : decode cX4_countIndices 14 = .ok (.if_icmp .ge 54, 3) := by decide +kernel
theorem dX4_countIndices_17 : decode cX4_countIndices 17 = .ok (.iload 6, 2) := by decide +kernel
theorem dX4_countIndices_19 : decode cX4_countIndices 19 = .ok (.aload_n 2, 1) := by decide +kernel
theorem dX4_countIndices_20 : decode cX4_countIndices 20 = .ok (.arraylength, 1) := by decide +kernel
theorem dX4_countIndices_21 : decode cX4_countIndices 21 = .ok (.if_icmp .ge 47, 3) := by decide +kernel
theorem dX4_countIndices_24 : decode cX4_countIndices 24 = .ok (.aload_n 0, 1) := by decide +kernel
theorem dX4_countIndices_25 : decode cX4_countIndices 25 = .ok (.aload_n 1, 1) := by decide +kernel
theorem dX4_countIndices_26 : decode cX4_countIndices 26 = .ok (.iload 6, 2) := by decide +kernel
theorem dX4_countIndices_28 : decode cX4_countIndices 28 = .ok (.invokevirtual 97, 3) := by decide +kernel
theorem dX4_countIndices_31 : decode cX4_countIndices 31 = .ok (.istore 7, 2) := by decide +kernel
theorem dX4_countIndices_33 : decode cX4_countIndices 33 = .ok (.aload_n 2, 1) := by decide +kernel
theorem dX4_countIndices_34 : decode cX4_countIndices 34 = .ok (.iload 6, 2) := by decide +kernel
theorem dX4_countIndices_36 : decode cX4_countIndices 36 = .ok (.iload 7, 2) := by decide +kernel
theorem dX4_countIndices_38 : decode cX4_countIndices 38 = .ok (.iconst 2, 1) := by decide +kernel
theorem dX4_countIndices_39 : decode cX4_countIndices 39 = .ok (.iload 4, 2) := by decide +kernel
theorem dX4_countIndices_41 : decode cX4_countIndices 41 = .ok (.imul, 1) := by decide +kernel
theorem dX4_countIndices_42 : decode cX4_countIndices 42 = .ok (.isub, 1) := by decide +kernel
theorem dX4_countIndices_43 : decode cX4_countIndices 43 = .ok (.iload 5, 2) := by decide +kernel
theorem dX4_countIndices_45 : decode cX4_countIndices 45 = .ok (.iadd, 1) := by decide +kernel
theorem dX4_countIndices_46 : decode cX4_countIndices 46 = .ok (.iastore, 1) := by decide +kernel
theorem dX4_countIndices_47 : decode cX4_countIndices 47 = .ok (.iload_n 3, 1) := by decide +kernel
theorem dX4_countIndices_48 : decode cX4_countIndices 48 = .ok (.aload_n 2, 1) := by decide +kernel
theorem dX4_countIndices_49 : decode cX4_countIndices 49 = .ok (.iload 6, 2) := by decide +kernel
theorem dX4_countIndices_51 : decode cX4_countIndices 51 = .ok (.iaload, 1) := by decide +kernel
theorem dX4_countIndices_52 : decode cX4_countIndices 52 = .ok (.iadd, 1) := by decide +kernel
theorem dX4_countIndices_53 : decode cX4_countIndices 53 = .ok (.istore_n 3, 1) := by decide +kernel
theorem dX4_countIndices_54 : decode cX4_countIndices 54 = .ok (.iload 4, 2) := by decide +kernel
theorem dX4_countIndices_56 : decode cX4_countIndices 56 = .ok (.istore 5, 2) := by decide +kernel
theorem dX4_countIndices_58 : decode cX4_countIndices 58 = .ok (.iload 7, 2) := by decide +kernel
theorem dX4_countIndices_60 : decode cX4_countIndices 60 = .ok (.istore 4, 2) := by decide +kernel
theorem dX4_countIndices_62 : decode cX4_countIndices 62 = .ok (.iinc 6 1, 3) := by decide +kernel
theorem dX4_countIndices_65 : decode cX4_countIndices 65 = .ok (.goto (-54), 3) := by decide +kernel
theorem dX4_countIndices_68 : decode cX4_countIndices 68 = .ok (.iload_n 3, 1) := by decide +kernel
theorem dX4_countIndices_69 : decode cX4_countIndices 69 = .ok (.ireturn, 1) := by decide +kernel
theorem dX4_flippedOf_0 : decode cX4_flippedOf 0 = .ok (.aload_n 0, 1) := by decide +kernel
theorem dX4_flippedOf_1 : decode cX4_flippedOf 1 = .ok (.getfield 14, 3) := by decide +kernel
theorem dX4_flippedOf_4 : decode cX4_flippedOf 4 = .ok (.aload_n 1, 1) := by decide +kernel
theorem dX4_flippedOf_5 : decode cX4_flippedOf 5 = .ok (.invokevirtual 100, 3) := by decide +kernel
theorem dX4_flippedOf_8 : decode cX4_flippedOf 8 = .ok (.aload_n 0, 1) := by decide +kernel
theorem dX4_flippedOf_9 : decode cX4_flippedOf 9 = .ok (.getfield 14, 3) := by decide +kernel
theorem dX4_flippedOf_12 : decode cX4_flippedOf 12 = .ok (.invokevirtual 104, 3) := by decide +kernel
theorem dX4_flippedOf_15 : decode cX4_flippedOf 15 = .ok (.aload_n 0, 1) := by decide +kernel
theorem dX4_flippedOf_16 : decode cX4_flippedOf 16 = .ok (.getfield 14, 3) := by decide +kernel
theorem dX4_flippedOf_19 : decode cX4_flippedOf 19 = .ok (.areturn, 1) := by decide +kernel
theorem dX4_indexIn_0 : decode cX4_indexIn 0 = .ok (.iconst 0, 1) := by decide +kernel
theorem dX4_indexIn_1 : decode cX4_indexIn 1 = .ok (.istore_n 2, 1) := by decide +kernel
theorem dX4_indexIn_2 : decode cX4_indexIn 2 = .ok (.iconst 0, 1) := by decide +kernel
theorem dX4_indexIn_3 : decode cX4_indexIn 3 = .ok (.istore_n 3, 1) := by decide +kernel
theorem dX4_indexIn_4 : decode cX4_indexIn 4 = .ok (.iload_n 3, 1) := by decide +kernel
theorem dX4_indexIn_5 : decode cX4_indexIn 5 = .ok (.aload_n 0, 1) := by decide +kernel
theorem dX4_indexIn_6 : decode cX4_indexIn 6 = .ok (.arraylength, 1) := by decide +kernel
theorem dX4_indexIn_7 : decode cX4_indexIn 7 = .ok (.if_icmp .ge 22, 3) := by decide +kernel
theorem dX4_indexIn_10 : decode cX4_indexIn 10 = .ok (.iload_n 2, 1) := by decide +kernel
theorem dX4_indexIn_11 : decode cX4_indexIn 11 = .ok (.aload_n 0, 1) := by decide +kernel
theorem dX4_indexIn_12 : decode cX4_indexIn 12 = .ok (.iload_n 3, 1) := by decide +kernel
theorem dX4_indexIn_13 : decode cX4_indexIn 13 = .ok (.iaload, 1) := by decide +kernel
theorem dX4_indexIn_14 : decode cX4_indexIn 14 = .ok (.iadd, 1) := by decide +kernel
theorem dX4_indexIn_15 : decode cX4_indexIn 15 = .ok (.istore_n 2, 1) := by decide +kernel
theorem dX4_indexIn_16 : decode cX4_indexIn 16 = .ok (.iload_n 1, 1) := by decide +kernel
theorem dX4_indexIn_17 : decode cX4_indexIn 17 = .ok (.iload_n 2, 1) := by decide +kernel
theorem dX4_indexIn_18 : decode cX4_indexIn 18 = .ok (.if_icmp .ge 5, 3) := by decide +kernel
theorem dX4_indexIn_21 : decode cX4_indexIn 21 = .ok (.iload_n 3, 1) := by decide +kernel
theorem dX4_indexIn_22 : decode cX4_indexIn 22 = .ok (.ireturn, 1) := by decide +kernel
theorem dX4_indexIn_23 : decode cX4_indexIn 23 = .ok (.iinc 3 1, 3) := by decide +kernel
theorem dX4_indexIn_26 : decode cX4_indexIn 26 = .ok (.goto (-22), 3) := by decide +kernel
theorem dX4_indexIn_29 : decode cX4_indexIn 29 = .ok (.bipush (-4), 2) := by decide +kernel
theorem dX4_indexIn_31 : decode cX4_indexIn 31 = .ok (.ireturn, 1) := by decide +kernel
theorem dX4_putIn_0 : decode cX4_putIn 0 = .ok (.iload_n 1, 1) := by decide +kernel
theorem dX4_putIn_1 : decode cX4_putIn 1 = .ok (.ifCond .lt 13, 3) := by decide +kernel
theorem dX4_putIn_4 : decode cX4_putIn 4 = .ok (.iload_n 1, 1) := by decide +kernel
theorem dX4_putIn_5 : decode cX4_putIn 5 = .ok (.aload_n 0, 1) := by decide +kernel
theorem dX4_putIn_6 : decode cX4_putIn 6 = .ok (.arraylength, 1) := by decide +kernel
theorem dX4_putIn_7 : decode cX4_putIn 7 = .ok (.if_icmp .ge 7, 3) := by decide +kernel
theorem dX4_putIn_10 : decode cX4_putIn 10 = .ok (.aload_n 0, 1) := by decide +kernel
theorem dX4_putIn_11 : decode cX4_putIn 11 = .ok (.iload_n 1, 1) := by decide +kernel
theorem dX4_putIn_12 : decode cX4_putIn 12 = .ok (.iload_n 2, 1) := by decide +kernel
theorem dX4_putIn_13 : decode cX4_putIn 13 = .ok (.iastore, 1) := by decide +kernel
theorem dX4_putIn_14 : decode cX4_putIn 14 = .ok (.iload_n 1, 1) := by decide +kernel
theorem dX4_putIn_15 : decode cX4_putIn 15 = .ok (.iconst 1, 1) := by decide +kernel
theorem dX4_putIn_16 : decode cX4_putIn 16 = .ok (.iadd, 1) := by decide +kernel
theorem dX4_putIn_17 : decode cX4_putIn 17 = .ok (.ireturn, 1) := by decide +kernel
end
section
theorem dX5_init_0 : decode cX5_init 0 = .ok (.aload_n 0, 1) := by decide +kernel
theorem dX5_init_1 : decode cX5_init 1 = .ok (.invokespecial 1, 3) := by decide +kernel
theorem dX5_init_4 : decode cX5_init 4 = .ok (.aload_n 0, 1) := by decide +kernel
theorem dX5_init_5 : decode cX5_init 5 = .ok (.new 7, 3) := by decide +kernel
theorem dX5_init_8 : decode cX5_init 8 = .ok (.dup, 1) := by decide +kernel
theorem dX5_init_9 : decode cX5_init 9 = .ok (.invokespecial 9, 3) := by decide +kernel
theorem dX5_init_12 : decode cX5_init 12 = .ok (.putfield 10, 3) := by decide +kernel
theorem dX5_init_15 : decode cX5_init 15 = .ok (.aload_n 0, 1) := by decide +kernel
theorem dX5_init_16 : decode cX5_init 16 = .ok (.new 16, 3) := by decide +kernel
theorem dX5_init_19 : decode cX5_init 19 = .ok (.dup, 1) := by decide +kernel
theorem dX5_init_20 : decode cX5_init 20 = .ok (.invokespecial 18, 3) := by decide +kernel
theorem dX5_init_23 : decode cX5_init 23 = .ok (.putfield 19, 3) := by decide +kernel
theorem dX5_init_26 : decode cX5_init 26 = .ok (.aload_n 0, 1) := by decide +kernel
theorem dX5_init_27 : decode cX5_init 27 = .ok (.iconst 2, 1) := by decide +kernel
theorem dX5_init_28 : decode cX5_init 28 = .ok (.anewarray 16, 3) := by decide +kernel
theorem dX5_init_31 : decode cX5_init 31 = .ok (.putfield 23, 3) := by decide +kernel
theorem dX5_init_34 : decode cX5_init 34 = .ok (.iconst 0, 1) := by decide +kernel
theorem dX5_init_35 : decode cX5_init 35 = .ok (.istore_n 1, 1) := by decide +kernel
theorem dX5_init_36 : decode cX5_init 36 = .ok (.iload_n 1, 1) := by decide +kernel
theorem dX5_init_37 : decode cX5_init 37 = .ok (.iconst 2, 1) := by decide +kernel
theorem dX5_init_38 : decode cX5_init 38 = .ok (.if_icmp .ge 22, 3) := by decide +kernel
theorem dX5_init_41 : decode cX5_init 41 = .ok (.aload_n 0, 1) := by decide +kernel
theorem dX5_init_42 : decode cX5_init 42 = .ok (.getfield 23, 3) := by decide +kernel
theorem dX5_init_45 : decode cX5_init 45 = .ok (.iload_n 1, 1) := by decide +kernel
theorem dX5_init_46 : decode cX5_init 46 = .ok (.new 16, 3) := by decide +kernel
theorem dX5_init_49 : decode cX5_init 49 = .ok (.dup, 1) := by decide +kernel
theorem dX5_init_50 : decode cX5_init 50 = .ok (.invokespecial 18, 3) := by decide +kernel
theorem dX5_init_53 : decode cX5_init 53 = .ok (.aastore, 1) := by decide +kernel
theorem dX5_init_54 : decode cX5_init 54 = .ok (.iinc 1 1, 3) := by decide +kernel
theorem dX5_init_57 : decode cX5_init 57 = .ok (.goto (-21), 3) := by decide +kernel
theorem dX5_init_60 : decode cX5_init 60 = .ok (.aload_n 0, 1) := by decide +kernel
theorem dX5_init_61 : decode cX5_init 61 = .ok (.iconst 2, 1) := by decide +kernel
theorem dX5_init_62 : decode cX5_init 62 = .ok (.newarray .boolean, 2) := by decide +kernel
theorem dX5_init_64 : decode cX5_init 64 = .ok (.putfield 27, 3) := by decide +kernel
theorem dX5_init_67 : decode cX5_init 67 = .ok (.aload_n 0, 1) := by decide +kernel
theorem dX5_init_68 : decode cX5_init 68 = .ok (.iconst 4, 1) := by decide +kernel
theorem dX5_init_69 : decode cX5_init 69 = .ok (.anewarray 31, 3) := by decide +kernel
theorem dX5_init_72 : decode cX5_init 72 = .ok (.putfield 33, 3) := by decide +kernel
theorem dX5_init_75 : decode cX5_init 75 = .ok (.iconst 0, 1) := by decide +kernel
theorem dX5_init_76 : decode cX5_init 76 = .ok (.istore_n 1, 1) := by decide +kernel
theorem dX5_init_77 : decode cX5_init 77 = .ok (.iload_n 1, 1) := by decide +kernel
theorem dX5_init_78 : decode cX5_init 78 = .ok (.iconst 4, 1) := by decide +kernel
theorem dX5_init_79 : decode cX5_init 79 = .ok (.if_icmp .ge 22, 3) := by decide +kernel
theorem dX5_init_82 : decode cX5_init 82 = .ok (.aload_n 0, 1) := by decide +kernel
theorem dX5_init_83 : decode cX5_init 83 = .ok (.getfield 33, 3) := by decide +kernel
theorem dX5_init_86 : decode cX5_init 86 = .ok (.iload_n 1, 1) := by decide +kernel
theorem dX5_init_87 : decode cX5_init 87 = .ok (.new 31, 3) := by decide +kernel
theorem dX5_init_90 : decode cX5_init 90 = .ok (.dup, 1) := by decide +kernel
theorem dX5_init_91 : decode cX5_init 91 = .ok (.invokespecial 37, 3) := by decide +kernel
theorem dX5_init_94 : decode cX5_init 94 = .ok (.aastore, 1) := by decide +kernel
theorem dX5_init_95 : decode cX5_init 95 = .ok (.iinc 1 1, 3) := by decide +kernel
theorem dX5_init_98 : decode cX5_init 98 = .ok (.goto (-21), 3) := by decide +kernel
theorem dX5_init_101 : decode cX5_init 101 = .ok (.aload_n 0, 1) := by decide +kernel
theorem dX5_init_102 : decode cX5_init 102 = .ok (.new 38, 3) := by decide +kernel
theorem dX5_init_105 : decode cX5_init 105 = .ok (.dup, 1) := by decide +kernel
theorem dX5_init_106 : decode cX5_init 106 = .ok (.invokespecial 40, 3) := by decide +kernel
theorem dX5_init_109 : decode cX5_init 109 = .ok (.putfield 41, 3) := by decide +kernel
theorem dX5_init_112 : decode cX5_init 112 = .ok (.aload_n 0, 1) := by decide +kernel
theorem dX5_init_113 : decode cX5_init 113 = .ok (.bipush 45, 2) := by decide +kernel
theorem dX5_init_115 : decode cX5_init 115 = .ok (.newarray .int, 2) := by decide +kernel
theorem dX5_init_117 : decode cX5_init 117 = .ok (.putfield 45, 3) := by decide +kernel
theorem dX5_init_120 : decode cX5_init 120 = .ok (.aload_n 0, 1) := by decide +kernel
theorem dX5_init_121 : decode cX5_init 121 = .ok (.bipush 45, 2) := by decide +kernel
theorem dX5_init_123 : decode cX5_init 123 = .ok (.newarray .int, 2) := by decide +kernel
theorem dX5_init_125 : decode cX5_init 125 = .ok (.putfield 49, 3) := by decide +kernel
theorem dX5_init_128 : decode cX5_init 128 = .ok (.return_, 1) := by decide +kernel
theorem dX5_feed_0 : decode cX5_feed 0 = .ok (.iload_n 1, 1) := by decide +kernel
theorem dX5_feed_1 : decode cX5_feed 1 = .ok (.ifCond .lt 9, 3) := by decide +kernel
theorem dX5_feed_4 : decode cX5_feed 4 = .ok (.iload_n 1, 1) := by decide +kernel
theorem dX5_feed_5 : decode cX5_feed 5 = .ok (.bipush 127, 2) := by decide +kernel
theorem dX5_feed_7 : decode cX5_feed 7 = .ok (.if_icmp .le 5, 3) := by decide +kernel
theorem dX5_feed_10 : decode cX5_feed 10 = .ok (.iconst (-1), 1) := by decide +kernel
theorem dX5_feed_11 : decode cX5_feed 11 = .ok (.ireturn, 1) := by decide +kernel
theorem dX5_feed_12 : decode cX5_feed 12 = .ok (.aload_n 0, 1) := by decide +kernel
theorem dX5_feed_13 : decode cX5_feed 13 = .ok (.getfield 10, 3) := by decide +kernel
theorem dX5_feed_16 : decode cX5_feed 16 = .ok (.iload_n 1, 1) := by decide +kernel
theorem dX5_feed_17 : decode cX5_feed 17 = .ok (.invokevirtual 52, 3) := by decide +kernel
theorem dX5_feed_20 : decode cX5_feed 20 = .ok (.ifCond .eq 13, 3) := by decide +kernel
theorem dX5_feed_23 : decode cX5_feed 23 = .ok (.aload_n 0, 1) := by decide +kernel
theorem dX5_feed_24 : decode cX5_feed 24 = .ok (.getfield 10, 3) := by decide +kernel
theorem dX5_feed_27 : decode cX5_feed 27 = .ok (.getfield 56, 3) := by decide +kernel
theorem dX5_feed_30 : decode cX5_feed 30 = .ok (.goto 5, 3) := by decide +kernel
theorem dX5_feed_33 : decode cX5_feed 33 = .ok (.bipush (-3), 2) := by decide +kernel
theorem dX5_feed_35 : decode cX5_feed 35 = .ok (.ireturn, 1) := by decide +kernel
theorem dX5_end_0 : decode cX5_end 0 = .ok (.iload_n 1, 1) := by decide +kernel
theorem dX5_end_1 : decode cX5_end 1 = .ok (.ifCond .lt 14, 3) := by decide +kernel
theorem dX5_end_4 : decode cX5_end 4 = .ok (.iload_n 1, 1) := by decide +kernel
theorem dX5_end_5 : decode cX5_end 5 = .ok (.aload_n 0, 1) := by decide +kernel
theorem dX5_end_6 : decode cX5_end 6 = .ok (.getfield 10, 3) := by decide +kernel
theorem dX5_end_9 : decode cX5_end 9 = .ok (.getfield 56, 3) := by decide +kernel
theorem dX5_end_12 : decode cX5_end 12 = .ok (.if_icmp .le 5, 3) := by decide +kernel
theorem dX5_end_15 : decode cX5_end 15 = .ok (.iconst (-1), 1) := by decide +kernel
theorem dX5_end_16 : decode cX5_end 16 = .ok (.ireturn, 1) := by decide +kernel
theorem dX5_end_17 : decode cX5_end 17 = .ok (.aload_n 0, 1) := by decide +kernel
theorem dX5_end_18 : decode cX5_end 18 = .ok (.getfield 10, 3) := by decide +kernel
theorem dX5_end_21 : decode cX5_end 21 = .ok (.getfield 56, 3) := by decide +kernel
theorem dX5_end_24 : decode cX5_end 24 = .ok (.istore_n 2, 1) := by decide +kernel
theorem dX5_end_25 : decode cX5_end 25 = .ok (.aload_n 0, 1) := by decide +kernel
theorem dX5_end_26 : decode cX5_end 26 = .ok (.getfield 10, 3) := by decide +kernel
theorem dX5_end_29 : decode cX5_end 29 = .ok (.iload_n 1, 1) := by decide +kernel
theorem dX5_end_30 : decode cX5_end 30 = .ok (.putfield 56, 3) := by decide +kernel
theorem dX5_end_33 : decode cX5_end 33 = .ok (.iload_n 2, 1) := by decide +kernel
theorem dX5_end_34 : decode cX5_end 34 = .ok (.ireturn, 1) := by decide +kernel
theorem dX5_text_0 : decode cX5_text 0 = .ok (.aload_n 0, 1) := by decide +kernel
theorem dX5_text_1 : decode cX5_text 1 = .ok (.getfield 10, 3) := by decide +kernel
theorem dX5_text_4 : decode cX5_text 4 = .ok (.invokevirtual 60, 3) := by decide +kernel
theorem dX5_text_7 : decode cX5_text 7 = .ok (.aload_n 0, 1) := by decide +kernel
theorem dX5_text_8 : decode cX5_text 8 = .ok (.getfield 10, 3) := by decide +kernel
theorem dX5_text_11 : decode cX5_text 11 = .ok (.iconst 0, 1) := by decide +kernel
theorem dX5_text_12 : decode cX5_text 12 = .ok (.putfield 56, 3) := by decide +kernel
theorem dX5_text_15 : decode cX5_text 15 = .ok (.aload_n 0, 1) := by decide +kernel
theorem dX5_text_16 : decode cX5_text 16 = .ok (.aload_n 0, 1) := by decide +kernel
theorem dX5_text_17 : decode cX5_text 17 = .ok (.getfield 10, 3) := by decide +kernel
theorem dX5_text_20 : decode cX5_text 20 = .ok (.getfield 63, 3) := by decide +kernel
theorem dX5_text_23 : decode cX5_text 23 = .ok (.putfield 66, 3) := by decide +kernel
theorem dX5_text_26 : decode cX5_text 26 = .ok (.aload_n 0, 1) := by decide +kernel
theorem dX5_text_27 : decode cX5_text 27 = .ok (.getfield 66, 3) := by decide +kernel
theorem dX5_text_30 : decode cX5_text 30 = .ok (.ifCond .eq 14, 3) := by decide +kernel
theorem dX5_text_33 : decode cX5_text 33 = .ok (.bipush (-10), 2) := by decide +kernel
theorem dX5_text_35 : decode cX5_text 35 = .ok (.aload_n 0, 1) := by decide +kernel
theorem dX5_text_36 : decode cX5_text 36 = .ok (.getfield 10, 3) := by decide +kernel
theorem dX5_text_39 : decode cX5_text 39 = .ok (.getfield 69, 3) := by decide +kernel
theorem dX5_text_42 : decode cX5_text 42 = .ok (.isub, 1) := by decide +kernel
theorem dX5_text_43 : decode cX5_text 43 = .ok (.ireturn, 1) := by decide +kernel
theorem dX5_text_44 : decode cX5_text 44 = .ok (.aload_n 0, 1) := by decide +kernel
theorem dX5_text_45 : decode cX5_text 45 = .ok (.getfield 19, 3) := by decide +kernel
theorem dX5_text_48 : decode cX5_text 48 = .ok (.aload_n 0, 1) := by decide +kernel
theorem dX5_text_49 : decode cX5_text 49 = .ok (.getfield 10, 3) := by decide +kernel
theorem dX5_text_52 : decode cX5_text 52 = .ok (.getfield 72, 3) := by decide +kernel
theorem dX5_text_55 : decode cX5_text 55 = .ok (.invokevirtual 75, 3) := by decide +kernel
theorem dX5_text_58 : decode cX5_text 58 = .ok (.iconst 0, 1) := by decide +kernel
theorem dX5_text_59 : decode cX5_text 59 = .ok (.istore_n 1, 1) := by decide +kernel
theorem dX5_text_60 : decode cX5_text 60 = .ok (.iload_n 1, 1) := by decide +kernel
theorem dX5_text_61 : decode cX5_text 61 = .ok (.iconst 2, 1) := by decide +kernel
theorem dX5_text_62 : decode cX5_text 62 = .ok (.if_icmp .ge 16, 3) := by decide +kernel
theorem dX5_text_65 : decode cX5_text 65 = .ok (.aload_n 0, 1) := by decide +kernel
theorem dX5_text_66 : decode cX5_text 66 = .ok (.getfield 27, 3) := by decide +kernel
theorem dX5_text_69 : decode cX5_text 69 = .ok (.iload_n 1, 1) := by decide +kernel
theorem dX5_text_70 : decode cX5_text 70 = .ok (.iconst 0, 1) := by decide +kernel
theorem dX5_text_71 : decode cX5_text 71 = .ok (.bastore, 1) := by decide +kernel
theorem dX5_text_72 : decode cX5_text 72 = .ok (.iinc 1 1, 3) := by decide +kernel
theorem dX5_text_75 : decode cX5_text 75 = .ok (.goto (-15), 3) := by decide +kernel
theorem dX5_text_78 : decode cX5_text 78 = .ok (.aload_n 0, 1) := by decide +kernel
theorem dX5_text_79 : decode cX5_text 79 = .ok (.getfield 10, 3) := by decide +kernel
theorem dX5_text_82 : decode cX5_text 82 = .ok (.getfield 79, 3) := by decide +kernel
theorem dX5_text_85 : decode cX5_text 85 = .ok (.ireturn, 1) := by decide +kernel
theorem dX5_fault_0 : decode cX5_fault 0 = .ok (.aload_n 0, 1) := by decide +kernel
theorem dX5_fault_1 : decode cX5_fault 1 = .ok (.getfield 66, 3) := by decide +kernel
theorem dX5_fault_4 : decode cX5_fault 4 = .ok (.ireturn, 1) := by decide +kernel
theorem dX5_rule_0 : decode cX5_rule 0 = .ok (.iload_n 1, 1) := by decide +kernel
theorem dX5_rule_1 : decode cX5_rule 1 = .ok (.tableswitch 183 0 7 #[47, 55, 63, 71, 83, 95, 121, 143], 47) := by decide +kernel
theorem dX5_rule_48 : decode cX5_rule 48 = .ok (.aload_n 0, 1) := by decide +kernel
theorem dX5_rule_49 : decode cX5_rule 49 = .ok (.getfield 19, 3) := by decide +kernel
theorem dX5_rule_52 : decode cX5_rule 52 = .ok (.getfield 82, 3) := by decide +kernel
theorem dX5_rule_55 : decode cX5_rule 55 = .ok (.ireturn, 1) := by decide +kernel
theorem dX5_rule_56 : decode cX5_rule 56 = .ok (.aload_n 0, 1) := by decide +kernel
theorem dX5_rule_57 : decode cX5_rule 57 = .ok (.getfield 19, 3) := by decide +kernel
theorem dX5_rule_60 : decode cX5_rule 60 = .ok (.getfield 85, 3) := by decide +kernel
theorem dX5_rule_63 : decode cX5_rule 63 = .ok (.ireturn, 1) := by decide +kernel
theorem dX5_rule_64 : decode cX5_rule 64 = .ok (.aload_n 0, 1) := by decide +kernel
theorem dX5_rule_65 : decode cX5_rule 65 = .ok (.getfield 19, 3) := by decide +kernel
theorem dX5_rule_68 : decode cX5_rule 68 = .ok (.getfield 88, 3) := by decide +kernel
theorem dX5_rule_71 : decode cX5_rule 71 = .ok (.ireturn, 1) := by decide +kernel
theorem dX5_rule_72 : decode cX5_rule 72 = .ok (.aload_n 0, 1) := by decide +kernel
theorem dX5_rule_73 : decode cX5_rule 73 = .ok (.getfield 41, 3) := by decide +kernel
theorem dX5_rule_76 : decode cX5_rule 76 = .ok (.aload_n 0, 1) := by decide +kernel
theorem dX5_rule_77 : decode cX5_rule 77 = .ok (.getfield 19, 3) := by decide +kernel
theorem dX5_rule_80 : decode cX5_rule 80 = .ok (.invokevirtual 91, 3) := by decide +kernel
theorem dX5_rule_83 : decode cX5_rule 83 = .ok (.ireturn, 1) := by decide +kernel
theorem dX5_rule_84 : decode cX5_rule 84 = .ok (.aload_n 0, 1) := by decide +kernel
theorem dX5_rule_85 : decode cX5_rule 85 = .ok (.getfield 41, 3) := by decide +kernel
theorem dX5_rule_88 : decode cX5_rule 88 = .ok (.aload_n 0, 1) := by decide +kernel
theorem dX5_rule_89 : decode cX5_rule 89 = .ok (.getfield 19, 3) := by decide +kernel
theorem dX5_rule_92 : decode cX5_rule 92 = .ok (.invokevirtual 95, 3) := by decide +kernel
theorem dX5_rule_95 : decode cX5_rule 95 = .ok (.ireturn, 1) := by decide +kernel
theorem dX5_rule_96 : decode cX5_rule 96 = .ok (.aload_n 0, 1) := by decide +kernel
theorem dX5_rule_97 : decode cX5_rule 97 = .ok (.getfield 41, 3) := by decide +kernel
theorem dX5_rule_100 : decode cX5_rule 100 = .ok (.aload_n 0, 1) := by decide +kernel
theorem dX5_rule_101 : decode cX5_rule 101 = .ok (.getfield 19, 3) := by decide +kernel
theorem dX5_rule_104 : decode cX5_rule 104 = .ok (.aload_n 0, 1) := by decide +kernel
theorem dX5_rule_105 : decode cX5_rule 105 = .ok (.getfield 19, 3) := by decide +kernel
theorem dX5_rule_108 : decode cX5_rule 108 = .ok (.getfield 88, 3) := by decide +kernel
theorem dX5_rule_111 : decode cX5_rule 111 = .ok (.aload_n 0, 1) := by decide +kernel
theorem dX5_rule_112 : decode cX5_rule 112 = .ok (.getfield 19, 3) := by decide +kernel
theorem dX5_rule_115 : decode cX5_rule 115 = .ok (.getfield 88, 3) := by decide +kernel
theorem dX5_rule_118 : decode cX5_rule 118 = .ok (.invokevirtual 98, 3) := by decide +kernel
theorem dX5_rule_121 : decode cX5_rule 121 = .ok (.ireturn, 1) := by decide +kernel
theorem dX5_rule_122 : decode cX5_rule 122 = .ok (.aload_n 0, 1) := by decide +kernel
theorem dX5_rule_123 : decode cX5_rule 123 = .ok (.getfield 41, 3) := by decide +kernel
theorem dX5_rule_126 : decode cX5_rule 126 = .ok (.aload_n 0, 1) := by decide +kernel
theorem dX5_rule_127 : decode cX5_rule 127 = .ok (.getfield 19, 3) := by decide +kernel
theorem dX5_rule_130 : decode cX5_rule 130 = .ok (.iconst 0, 1) := by decide +kernel
theorem dX5_rule_131 : decode cX5_rule 131 = .ok (.aload_n 0, 1) := by decide +kernel
theorem dX5_rule_132 : decode cX5_rule 132 = .ok (.getfield 19, 3) := by decide +kernel
theorem dX5_rule_135 : decode cX5_rule 135 = .ok (.getfield 88, 3) := by decide +kernel
theorem dX5_rule_138 : decode cX5_rule 138 = .ok (.iconst 1, 1) := by decide +kernel
theorem dX5_rule_139 : decode cX5_rule 139 = .ok (.isub, 1) := by decide +kernel
theorem dX5_rule_140 : decode cX5_rule 140 = .ok (.invokevirtual 98, 3) := by decide +kernel
theorem dX5_rule_143 : decode cX5_rule 143 = .ok (.ireturn, 1) := by decide +kernel
theorem dX5_rule_144 : decode cX5_rule 144 = .ok (.aload_n 0, 1) := by decide +kernel
theorem dX5_rule_145 : decode cX5_rule 145 = .ok (.getfield 19, 3) := by decide +kernel
theorem dX5_rule_148 : decode cX5_rule 148 = .ok (.getfield 85, 3) := by decide +kernel
theorem dX5_rule_151 : decode cX5_rule 151 = .ok (.aload_n 0, 1) := by decide +kernel
theorem dX5_rule_152 : decode cX5_rule 152 = .ok (.getfield 41, 3) := by decide +kernel
theorem dX5_rule_155 : decode cX5_rule 155 = .ok (.aload_n 0, 1) := by decide +kernel
theorem dX5_rule_156 : decode cX5_rule 156 = .ok (.getfield 19, 3) := by decide +kernel
theorem dX5_rule_159 : decode cX5_rule 159 = .ok (.invokevirtual 102, 3) := by decide +kernel
theorem dX5_rule_162 : decode cX5_rule 162 = .ok (.isub, 1) := by decide +kernel
theorem dX5_rule_163 : decode cX5_rule 163 = .ok (.aload_n 0, 1) := by decide +kernel
theorem dX5_rule_164 : decode cX5_rule 164 = .ok (.getfield 41, 3) := by decide +kernel
theorem dX5_rule_167 : decode cX5_rule 167 = .ok (.aload_n 0, 1) := by decide +kernel
theorem dX5_rule_168 : decode cX5_rule 168 = .ok (.getfield 19, 3) := by decide +kernel
theorem dX5_rule_171 : decode cX5_rule 171 = .ok (.iconst 0, 1) := by decide +kernel
theorem dX5_rule_172 : decode cX5_rule 172 = .ok (.aload_n 0, 1) := by decide +kernel
theorem dX5_rule_173 : decode cX5_rule 173 = .ok (.getfield 19, 3) := by decide +kernel
theorem dX5_rule_176 : decode cX5_rule 176 = .ok (.getfield 88, 3) := by decide +kernel
theorem dX5_rule_179 : decode cX5_rule 179 = .ok (.invokevirtual 98, 3) := by decide +kernel
theorem dX5_rule_182 : decode cX5_rule 182 = .ok (.isub, 1) := by decide +kernel
theorem dX5_rule_183 : decode cX5_rule 183 = .ok (.ireturn, 1) := by decide +kernel
theorem dX5_rule_184 : decode cX5_rule 184 = .ok (.iconst (-1), 1) := by decide +kernel
theorem dX5_rule_185 : decode cX5_rule 185 = .ok (.ireturn, 1) := by decide +kernel
theorem dX5_cell_0 : decode cX5_cell 0 = .ok (.aload_n 0, 1) := by decide +kernel
theorem dX5_cell_1 : decode cX5_cell 1 = .ok (.getfield 19, 3) := by decide +kernel
theorem dX5_cell_4 : decode cX5_cell 4 = .ok (.iload_n 1, 1) := by decide +kernel
theorem dX5_cell_5 : decode cX5_cell 5 = .ok (.iload_n 2, 1) := by decide +kernel
theorem dX5_cell_6 : decode cX5_cell 6 = .ok (.iload_n 3, 1) := by decide +kernel
theorem dX5_cell_7 : decode cX5_cell 7 = .ok (.invokevirtual 105, 3) := by decide +kernel
theorem dX5_cell_10 : decode cX5_cell 10 = .ok (.ifCond .eq 16, 3) := by decide +kernel
theorem dX5_cell_13 : decode cX5_cell 13 = .ok (.aload_n 0, 1) := by decide +kernel
theorem dX5_cell_14 : decode cX5_cell 14 = .ok (.getfield 19, 3) := by decide +kernel
theorem dX5_cell_17 : decode cX5_cell 17 = .ok (.iload_n 1, 1) := by decide +kernel
theorem dX5_cell_18 : decode cX5_cell 18 = .ok (.iload_n 2, 1) := by decide +kernel
theorem dX5_cell_19 : decode cX5_cell 19 = .ok (.iload_n 3, 1) := by decide +kernel
theorem dX5_cell_20 : decode cX5_cell 20 = .ok (.invokevirtual 109, 3) := by decide +kernel
theorem dX5_cell_23 : decode cX5_cell 23 = .ok (.goto 4, 3) := by decide +kernel
theorem dX5_cell_26 : decode cX5_cell 26 = .ok (.iconst (-1), 1) := by decide +kernel
theorem dX5_cell_27 : decode cX5_cell 27 = .ok (.ireturn, 1) := by decide +kernel
theorem dX5_rank_0 : decode cX5_rank 0 = .ok (.aload_n 0, 1) := by decide +kernel
theorem dX5_rank_1 : decode cX5_rank 1 = .ok (.iload_n 1, 1) := by decide +kernel
theorem dX5_rank_2 : decode cX5_rank 2 = .ok (.invokevirtual 113, 3) := by decide +kernel
theorem dX5_rank_5 : decode cX5_rank 5 = .ok (.ifCond .eq 18, 3) := by decide +kernel
theorem dX5_rank_8 : decode cX5_rank 8 = .ok (.aload_n 0, 1) := by decide +kernel
theorem dX5_rank_9 : decode cX5_rank 9 = .ok (.getfield 41, 3) := by decide +kernel
theorem dX5_rank_12 : decode cX5_rank 12 = .ok (.aload_n 0, 1) := by decide +kernel
theorem dX5_rank_13 : decode cX5_rank 13 = .ok (.getfield 19, 3) := by decide +kernel
theorem dX5_rank_16 : decode cX5_rank 16 = .ok (.iload_n 1, 1) := by decide +kernel
theorem dX5_rank_17 : decode cX5_rank 17 = .ok (.invokevirtual 116, 3) := by decide +kernel
theorem dX5_rank_20 : decode cX5_rank 20 = .ok (.goto 4, 3) := by decide +kernel
theorem dX5_rank_23 : decode cX5_rank 23 = .ok (.iconst (-1), 1) := by decide +kernel
theorem dX5_rank_24 : decode cX5_rank 24 = .ok (.ireturn, 1) := by decide +kernel
theorem dX5_nulls_0 : decode cX5_nulls 0 = .ok (.iload_n 1, 1) := by decide +kernel
theorem dX5_nulls_1 : decode cX5_nulls 1 = .ok (.invokestatic 120, 3) := by decide +kernel
theorem dX5_nulls_4 : decode cX5_nulls 4 = .ok (.ifCond .eq 18, 3) := by decide +kernel
theorem dX5_nulls_7 : decode cX5_nulls 7 = .ok (.aload_n 0, 1) := by decide +kernel
theorem dX5_nulls_8 : decode cX5_nulls 8 = .ok (.getfield 41, 3) := by decide +kernel
theorem dX5_nulls_11 : decode cX5_nulls 11 = .ok (.aload_n 0, 1) := by decide +kernel
theorem dX5_nulls_12 : decode cX5_nulls 12 = .ok (.getfield 19, 3) := by decide +kernel
theorem dX5_nulls_15 : decode cX5_nulls 15 = .ok (.iload_n 1, 1) := by decide +kernel
theorem dX5_nulls_16 : decode cX5_nulls 16 = .ok (.invokevirtual 123, 3) := by decide +kernel
theorem dX5_nulls_19 : decode cX5_nulls 19 = .ok (.goto 4, 3) := by decide +kernel
theorem dX5_nulls_22 : decode cX5_nulls 22 = .ok (.iconst (-1), 1) := by decide +kernel
theorem dX5_nulls_23 : decode cX5_nulls 23 = .ok (.ireturn, 1) := by decide +kernel
theorem dX5_col_0 : decode cX5_col 0 = .ok (.iload_n 1, 1) := by decide +kernel
theorem dX5_col_1 : decode cX5_col 1 = .ok (.ifCond .ge 7, 3) := by decide +kernel
theorem dX5_col_4 : decode cX5_col 4 = .ok (.iconst (-1), 1) := by decide +kernel
theorem dX5_col_5 : decode cX5_col 5 = .ok (.goto 15, 3) := by decide +kernel
theorem dX5_col_8 : decode cX5_col 8 = .ok (.aload_n 0, 1) := by decide +kernel
theorem dX5_col_9 : decode cX5_col 9 = .ok (.getfield 41, 3) := by decide +kernel
theorem dX5_col_12 : decode cX5_col 12 = .ok (.aload_n 0, 1) := by decide +kernel
theorem dX5_col_13 : decode cX5_col 13 = .ok (.getfield 19, 3) := by decide +kernel
theorem dX5_col_16 : decode cX5_col 16 = .ok (.iload_n 1, 1) := by decide +kernel
theorem dX5_col_17 : decode cX5_col 17 = .ok (.invokevirtual 126, 3) := by decide +kernel
theorem dX5_col_20 : decode cX5_col 20 = .ok (.ireturn, 1) := by decide +kernel
theorem dX5_row_0 : decode cX5_row 0 = .ok (.iload_n 1, 1) := by decide +kernel
theorem dX5_row_1 : decode cX5_row 1 = .ok (.ifCond .ge 7, 3) := by decide +kernel
theorem dX5_row_4 : decode cX5_row 4 = .ok (.iconst (-1), 1) := by decide +kernel
theorem dX5_row_5 : decode cX5_row 5 = .ok (.goto 15, 3) := by decide +kernel
theorem dX5_row_8 : decode cX5_row 8 = .ok (.aload_n 0, 1) := by decide +kernel
theorem dX5_row_9 : decode cX5_row 9 = .ok (.getfield 41, 3) := by decide +kernel
theorem dX5_row_12 : decode cX5_row 12 = .ok (.aload_n 0, 1) := by decide +kernel
theorem dX5_row_13 : decode cX5_row 13 = .ok (.getfield 19, 3) := by decide +kernel
theorem dX5_row_16 : decode cX5_row 16 = .ok (.iload_n 1, 1) := by decide +kernel
theorem dX5_row_17 : decode cX5_row 17 = .ok (.invokevirtual 129, 3) := by decide +kernel
theorem dX5_row_20 : decode cX5_row 20 = .ok (.ireturn, 1) := by decide +kernel
theorem dX5_chains_0 : decode cX5_chains 0 = .ok (.aload_n 0, 1) := by decide +kernel
theorem dX5_chains_1 : decode cX5_chains 1 = .ok (.iload_n 1, 1) := by decide +kernel
theorem dX5_chains_2 : decode cX5_chains 2 = .ok (.invokevirtual 113, 3) := by decide +kernel
theorem dX5_chains_5 : decode cX5_chains 5 = .ok (.ifCond .eq 26, 3) := by decide +kernel
theorem dX5_chains_8 : decode cX5_chains 8 = .ok (.iload_n 2, 1) := by decide +kernel
theorem dX5_chains_9 : decode cX5_chains 9 = .ok (.invokestatic 120, 3) := by decide +kernel
theorem dX5_chains_12 : decode cX5_chains 12 = .ok (.ifCond .eq 19, 3) := by decide +kernel
theorem dX5_chains_15 : decode cX5_chains 15 = .ok (.aload_n 0, 1) := by decide +kernel
theorem dX5_chains_16 : decode cX5_chains 16 = .ok (.getfield 41, 3) := by decide +kernel
theorem dX5_chains_19 : decode cX5_chains 19 = .ok (.aload_n 0, 1) := by decide +kernel
theorem dX5_chains_20 : decode cX5_chains 20 = .ok (.getfield 19, 3) := by decide +kernel
theorem dX5_chains_23 : decode cX5_chains 23 = .ok (.iload_n 1, 1) := by decide +kernel
theorem dX5_chains_24 : decode cX5_chains 24 = .ok (.iload_n 2, 1) := by decide +kernel
theorem dX5_chains_25 : decode cX5_chains 25 = .ok (.invokevirtual 132, 3) := by decide +kernel
theorem dX5_chains_28 : decode cX5_chains 28 = .ok (.goto 4, 3) := by decide +kernel
theorem dX5_chains_31 : decode cX5_chains 31 = .ok (.iconst (-1), 1) := by decide +kernel
theorem dX5_chains_32 : decode cX5_chains 32 = .ok (.ireturn, 1) := by decide +kernel
theorem dX5_length_0 : decode cX5_length 0 = .ok (.aload_n 0, 1) := by decide +kernel
theorem dX5_length_1 : decode cX5_length 1 = .ok (.iload_n 1, 1) := by decide +kernel
theorem dX5_length_2 : decode cX5_length 2 = .ok (.invokevirtual 113, 3) := by decide +kernel
theorem dX5_length_5 : decode cX5_length 5 = .ok (.ifCond .eq 23, 3) := by decide +kernel
theorem dX5_length_8 : decode cX5_length 8 = .ok (.iload_n 2, 1) := by decide +kernel
theorem dX5_length_9 : decode cX5_length 9 = .ok (.ifCond .lt 19, 3) := by decide +kernel
theorem dX5_length_12 : decode cX5_length 12 = .ok (.aload_n 0, 1) := by decide +kernel
theorem dX5_length_13 : decode cX5_length 13 = .ok (.getfield 41, 3) := by decide +kernel
theorem dX5_length_16 : decode cX5_length 16 = .ok (.aload_n 0, 1) := by decide +kernel
theorem dX5_length_17 : decode cX5_length 17 = .ok (.getfield 19, 3) := by decide +kernel
theorem dX5_length_20 : decode cX5_length 20 = .ok (.iload_n 1, 1) := by decide +kernel
theorem dX5_length_21 : decode cX5_length 21 = .ok (.iload_n 2, 1) := by decide +kernel
theorem dX5_length_22 : decode cX5_length 22 = .ok (.invokevirtual 135, 3) := by decide +kernel
theorem dX5_length_25 : decode cX5_length 25 = .ok (.goto 4, 3) := by decide +kernel
theorem dX5_length_28 : decode cX5_length 28 = .ok (.iconst (-1), 1) := by decide +kernel
theorem dX5_length_29 : decode cX5_length 29 = .ok (.ireturn, 1) := by decide +kernel
theorem dX5_steps_0 : decode cX5_steps 0 = .ok (.iload_n 1, 1) := by decide +kernel
theorem dX5_steps_1 : decode cX5_steps 1 = .ok (.invokestatic 120, 3) := by decide +kernel
theorem dX5_steps_4 : decode cX5_steps 4 = .ok (.ifCond .eq 10, 3) := by decide +kernel
theorem dX5_steps_7 : decode cX5_steps 7 = .ok (.iload_n 2, 1) := by decide +kernel
theorem dX5_steps_8 : decode cX5_steps 8 = .ok (.invokestatic 138, 3) := by decide +kernel
theorem dX5_steps_11 : decode cX5_steps 11 = .ok (.ifCond .ne 5, 3) := by decide +kernel
theorem dX5_steps_14 : decode cX5_steps 14 = .ok (.iconst (-1), 1) := by decide +kernel
theorem dX5_steps_15 : decode cX5_steps 15 = .ok (.ireturn, 1) := by decide +kernel
theorem dX5_steps_16 : decode cX5_steps 16 = .ok (.iload_n 2, 1) := by decide +kernel
theorem dX5_steps_17 : decode cX5_steps 17 = .ok (.ifCond .ne 18, 3) := by decide +kernel
theorem dX5_steps_20 : decode cX5_steps 20 = .ok (.aload_n 0, 1) := by decide +kernel
theorem dX5_steps_21 : decode cX5_steps 21 = .ok (.getfield 41, 3) := by decide +kernel
theorem dX5_steps_24 : decode cX5_steps 24 = .ok (.aload_n 0, 1) := by decide +kernel
theorem dX5_steps_25 : decode cX5_steps 25 = .ok (.getfield 19, 3) := by decide +kernel
theorem dX5_steps_28 : decode cX5_steps 28 = .ok (.iload_n 1, 1) := by decide +kernel
theorem dX5_steps_29 : decode cX5_steps 29 = .ok (.invokevirtual 141, 3) := by decide +kernel
theorem dX5_steps_32 : decode cX5_steps 32 = .ok (.goto 15, 3) := by decide +kernel
theorem dX5_steps_35 : decode cX5_steps 35 = .ok (.aload_n 0, 1) := by decide +kernel
theorem dX5_steps_36 : decode cX5_steps 36 = .ok (.getfield 41, 3) := by decide +kernel
theorem dX5_steps_39 : decode cX5_steps 39 = .ok (.aload_n 0, 1) := by decide +kernel
theorem dX5_steps_40 : decode cX5_steps 40 = .ok (.getfield 19, 3) := by decide +kernel
theorem dX5_steps_43 : decode cX5_steps 43 = .ok (.iload_n 1, 1) := by decide +kernel
theorem dX5_steps_44 : decode cX5_steps 44 = .ok (.invokevirtual 144, 3) := by decide +kernel
theorem dX5_steps_47 : decode cX5_steps 47 = .ok (.ireturn, 1) := by decide +kernel
theorem dX5_go_0 : decode cX5_go 0 = .ok (.iload_n 2, 1) := by decide +kernel
theorem dX5_go_1 : decode cX5_go 1 = .ok (.invokestatic 120, 3) := by decide +kernel
theorem dX5_go_4 : decode cX5_go 4 = .ok (.ifCond .eq 18, 3) := by decide +kernel
theorem dX5_go_7 : decode cX5_go 7 = .ok (.aload_n 0, 1) := by decide +kernel
theorem dX5_go_8 : decode cX5_go 8 = .ok (.getfield 41, 3) := by decide +kernel
theorem dX5_go_11 : decode cX5_go 11 = .ok (.aload_n 0, 1) := by decide +kernel
theorem dX5_go_12 : decode cX5_go 12 = .ok (.getfield 19, 3) := by decide +kernel
theorem dX5_go_15 : decode cX5_go 15 = .ok (.iload_n 1, 1) := by decide +kernel
theorem dX5_go_16 : decode cX5_go 16 = .ok (.invokevirtual 147, 3) := by decide +kernel
theorem dX5_go_19 : decode cX5_go 19 = .ok (.ifCond .ne 5, 3) := by decide +kernel
theorem dX5_go_22 : decode cX5_go 22 = .ok (.iconst (-1), 1) := by decide +kernel
theorem dX5_go_23 : decode cX5_go 23 = .ok (.ireturn, 1) := by decide +kernel
theorem dX5_go_24 : decode cX5_go 24 = .ok (.aload_n 0, 1) := by decide +kernel
theorem dX5_go_25 : decode cX5_go 25 = .ok (.getfield 41, 3) := by decide +kernel
theorem dX5_go_28 : decode cX5_go 28 = .ok (.aload_n 0, 1) := by decide +kernel
theorem dX5_go_29 : decode cX5_go 29 = .ok (.getfield 19, 3) := by decide +kernel
theorem dX5_go_32 : decode cX5_go 32 = .ok (.iload_n 2, 1) := by decide +kernel
theorem dX5_go_33 : decode cX5_go 33 = .ok (.invokevirtual 151, 3) := by decide +kernel
theorem dX5_go_36 : decode cX5_go 36 = .ok (.ifCond .eq 7, 3) := by decide +kernel
theorem dX5_go_39 : decode cX5_go 39 = .ok (.iconst 1, 1) := by decide +kernel
theorem dX5_go_40 : decode cX5_go 40 = .ok (.goto 4, 3) := by decide +kernel
theorem dX5_go_43 : decode cX5_go 43 = .ok (.iconst 0, 1) := by decide +kernel
theorem dX5_go_44 : decode cX5_go 44 = .ok (.ireturn, 1) := by decide +kernel
theorem dX5_isX_0 : decode cX5_isX 0 = .ok (.iload_n 1, 1) := by decide +kernel
theorem dX5_isX_1 : decode cX5_isX 1 = .ok (.ifCond .lt 18, 3) := by decide +kernel
theorem dX5_isX_4 : decode cX5_isX 4 = .ok (.iload_n 1, 1) := by decide +kernel
theorem dX5_isX_5 : decode cX5_isX 5 = .ok (.aload_n 0, 1) := by decide +kernel
theorem dX5_isX_6 : decode cX5_isX 6 = .ok (.getfield 19, 3) := by decide +kernel
theorem dX5_isX_9 : decode cX5_isX 9 = .ok (.getfield 88, 3) := by decide +kernel
theorem dX5_isX_12 : decode cX5_isX 12 = .ok (.if_icmp .gt 7, 3) := by decide +kernel
theorem dX5_isX_15 : decode cX5_isX 15 = .ok (.iconst 1, 1) := by decide +kernel
theorem dX5_isX_16 : decode cX5_isX 16 = .ok (.goto 4, 3) := by decide +kernel
theorem dX5_isX_19 : decode cX5_isX 19 = .ok (.iconst 0, 1) := by decide +kernel
theorem dX5_isX_20 : decode cX5_isX 20 = .ok (.ireturn, 1) := by decide +kernel
theorem dX5_isStepCount_0 : decode cX5_isStepCount 0 = .ok (.iload_n 0, 1) := by decide +kernel
theorem dX5_isStepCount_1 : decode cX5_isStepCount 1 = .ok (.ifCond .lt 12, 3) := by decide +kernel
theorem dX5_isStepCount_4 : decode cX5_isStepCount 4 = .ok (.iload_n 0, 1) := by decide +kernel
theorem dX5_isStepCount_5 : decode cX5_isStepCount 5 = .ok (.iconst 4, 1) := by decide +kernel
theorem dX5_isStepCount_6 : decode cX5_isStepCount 6 = .ok (.if_icmp .gt 7, 3) := by decide +kernel
theorem dX5_isStepCount_9 : decode cX5_isStepCount 9 = .ok (.iconst 1, 1) := by decide +kernel
theorem dX5_isStepCount_10 : decode cX5_isStepCount 10 = .ok (.goto 4, 3) := by decide +kernel
theorem dX5_isStepCount_13 : decode cX5_isStepCount 13 = .ok (.iconst 0, 1) := by decide +kernel
theorem dX5_isStepCount_14 : decode cX5_isStepCount 14 = .ok (.ireturn, 1) := by decide +kernel
theorem dX5_isSide_0 : decode cX5_isSide 0 = .ok (.iload_n 0, 1) := by decide +kernel
theorem dX5_isSide_1 : decode cX5_isSide 1 = .ok (.ifCond .eq 8, 3) := by decide +kernel
theorem dX5_isSide_4 : decode cX5_isSide 4 = .ok (.iload_n 0, 1) := by decide +kernel
theorem dX5_isSide_5 : decode cX5_isSide 5 = .ok (.iconst 1, 1) := by decide +kernel
theorem dX5_isSide_6 : decode cX5_isSide 6 = .ok (.if_icmp .ne 7, 3) := by decide +kernel
theorem dX5_isSide_9 : decode cX5_isSide 9 = .ok (.iconst 1, 1) := by decide +kernel
theorem dX5_isSide_10 : decode cX5_isSide 10 = .ok (.goto 4, 3) := by decide +kernel
theorem dX5_isSide_13 : decode cX5_isSide 13 = .ok (.iconst 0, 1) := by decide +kernel
theorem dX5_isSide_14 : decode cX5_isSide 14 = .ok (.ireturn, 1) := by decide +kernel
theorem dX5_set_0 : decode cX5_set 0 = .ok (.aload_n 0, 1) := by decide +kernel
theorem dX5_set_1 : decode cX5_set 1 = .ok (.iload_n 1, 1) := by decide +kernel
theorem dX5_set_2 : decode cX5_set 2 = .ok (.iload_n 2, 1) := by decide +kernel
theorem dX5_set_3 : decode cX5_set 3 = .ok (.iload_n 3, 1) := by decide +kernel
theorem dX5_set_4 : decode cX5_set 4 = .ok (.iload 4, 2) := by decide +kernel
theorem dX5_set_6 : decode cX5_set 6 = .ok (.invokevirtual 154, 3) := by decide +kernel
theorem dX5_set_9 : decode cX5_set 9 = .ok (.ifCond .ne 5, 3) := by decide +kernel
theorem dX5_set_12 : decode cX5_set 12 = .ok (.iconst (-1), 1) := by decide +kernel
theorem dX5_set_13 : decode cX5_set 13 = .ok (.ireturn, 1) := by decide +kernel
theorem dX5_set_14 : decode cX5_set 14 = .ok (.aload_n 0, 1) := by decide +kernel
theorem dX5_set_15 : decode cX5_set 15 = .ok (.getfield 19, 3) := by decide +kernel
theorem dX5_set_18 : decode cX5_set 18 = .ok (.iload_n 1, 1) := by decide +kernel
theorem dX5_set_19 : decode cX5_set 19 = .ok (.iload_n 2, 1) := by decide +kernel
theorem dX5_set_20 : decode cX5_set 20 = .ok (.iload_n 3, 1) := by decide +kernel
theorem dX5_set_21 : decode cX5_set 21 = .ok (.invokevirtual 109, 3) := by decide +kernel
theorem dX5_set_24 : decode cX5_set 24 = .ok (.istore 5, 2) := by decide +kernel
theorem dX5_set_26 : decode cX5_set 26 = .ok (.aload_n 0, 1) := by decide +kernel
theorem dX5_set_27 : decode cX5_set 27 = .ok (.getfield 19, 3) := by decide +kernel
theorem dX5_set_30 : decode cX5_set 30 = .ok (.iload_n 1, 1) := by decide +kernel
theorem dX5_set_31 : decode cX5_set 31 = .ok (.iload_n 2, 1) := by decide +kernel
theorem dX5_set_32 : decode cX5_set 32 = .ok (.iload_n 3, 1) := by decide +kernel
theorem dX5_set_33 : decode cX5_set 33 = .ok (.iload 4, 2) := by decide +kernel
theorem dX5_set_35 : decode cX5_set 35 = .ok (.invokevirtual 158, 3) := by decide +kernel
theorem dX5_set_38 : decode cX5_set 38 = .ok (.iload 5, 2) := by decide +kernel
theorem dX5_set_40 : decode cX5_set 40 = .ok (.ireturn, 1) := by decide +kernel
theorem dX5_open_0 : decode cX5_open 0 = .ok (.iload_n 1, 1) := by decide +kernel
theorem dX5_open_1 : decode cX5_open 1 = .ok (.invokestatic 138, 3) := by decide +kernel
theorem dX5_open_4 : decode cX5_open 4 = .ok (.ifCond .ne 5, 3) := by decide +kernel
theorem dX5_open_7 : decode cX5_open 7 = .ok (.iconst (-1), 1) := by decide +kernel
theorem dX5_open_8 : decode cX5_open 8 = .ok (.ireturn, 1) := by decide +kernel
theorem dX5_open_9 : decode cX5_open 9 = .ok (.aload_n 0, 1) := by decide +kernel
theorem dX5_open_10 : decode cX5_open 10 = .ok (.getfield 19, 3) := by decide +kernel
theorem dX5_open_13 : decode cX5_open 13 = .ok (.iload_n 1, 1) := by decide +kernel
theorem dX5_open_14 : decode cX5_open 14 = .ok (.invokevirtual 162, 3) := by decide +kernel
theorem dX5_open_17 : decode cX5_open 17 = .ok (.iconst 4, 1) := by decide +kernel
theorem dX5_open_18 : decode cX5_open 18 = .ok (.if_icmp .lt 6, 3) := by decide +kernel
theorem dX5_open_21 : decode cX5_open 21 = .ok (.bipush (-3), 2) := by decide +kernel
theorem dX5_open_23 : decode cX5_open 23 = .ok (.ireturn, 1) := by decide +kernel
theorem dX5_open_24 : decode cX5_open 24 = .ok (.aload_n 0, 1) := by decide +kernel
theorem dX5_open_25 : decode cX5_open 25 = .ok (.getfield 19, 3) := by decide +kernel
theorem dX5_open_28 : decode cX5_open 28 = .ok (.iload_n 1, 1) := by decide +kernel
theorem dX5_open_29 : decode cX5_open 29 = .ok (.invokevirtual 166, 3) := by decide +kernel
theorem dX5_open_32 : decode cX5_open 32 = .ok (.aload_n 0, 1) := by decide +kernel
theorem dX5_open_33 : decode cX5_open 33 = .ok (.getfield 19, 3) := by decide +kernel
theorem dX5_open_36 : decode cX5_open 36 = .ok (.iload_n 1, 1) := by decide +kernel
theorem dX5_open_37 : decode cX5_open 37 = .ok (.invokevirtual 162, 3) := by decide +kernel
theorem dX5_open_40 : decode cX5_open 40 = .ok (.ireturn, 1) := by decide +kernel
theorem dX5_cut_0 : decode cX5_cut 0 = .ok (.iload_n 1, 1) := by decide +kernel
theorem dX5_cut_1 : decode cX5_cut 1 = .ok (.ifCond .lt 29, 3) := by decide +kernel
theorem dX5_cut_4 : decode cX5_cut 4 = .ok (.iload_n 1, 1) := by decide +kernel
theorem dX5_cut_5 : decode cX5_cut 5 = .ok (.aload_n 0, 1) := by decide +kernel
theorem dX5_cut_6 : decode cX5_cut 6 = .ok (.getfield 19, 3) := by decide +kernel
theorem dX5_cut_9 : decode cX5_cut 9 = .ok (.getfield 82, 3) := by decide +kernel
theorem dX5_cut_12 : decode cX5_cut 12 = .ok (.if_icmp .gt 18, 3) := by decide +kernel
theorem dX5_cut_15 : decode cX5_cut 15 = .ok (.iload_n 2, 1) := by decide +kernel
theorem dX5_cut_16 : decode cX5_cut 16 = .ok (.ifCond .lt 14, 3) := by decide +kernel
theorem dX5_cut_19 : decode cX5_cut 19 = .ok (.iload_n 2, 1) := by decide +kernel
theorem dX5_cut_20 : decode cX5_cut 20 = .ok (.aload_n 0, 1) := by decide +kernel
theorem dX5_cut_21 : decode cX5_cut 21 = .ok (.getfield 19, 3) := by decide +kernel
theorem dX5_cut_24 : decode cX5_cut 24 = .ok (.getfield 85, 3) := by decide +kernel
theorem dX5_cut_27 : decode cX5_cut 27 = .ok (.if_icmp .le 5, 3) := by decide +kernel
theorem dX5_cut_30 : decode cX5_cut 30 = .ok (.iconst (-1), 1) := by decide +kernel
theorem dX5_cut_31 : decode cX5_cut 31 = .ok (.ireturn, 1) := by decide +kernel
theorem dX5_cut_32 : decode cX5_cut 32 = .ok (.aload_n 0, 1) := by decide +kernel
theorem dX5_cut_33 : decode cX5_cut 33 = .ok (.getfield 19, 3) := by decide +kernel
theorem dX5_cut_36 : decode cX5_cut 36 = .ok (.invokevirtual 170, 3) := by decide +kernel
theorem dX5_cut_39 : decode cX5_cut 39 = .ok (.istore_n 3, 1) := by decide +kernel
theorem dX5_cut_40 : decode cX5_cut 40 = .ok (.aload_n 0, 1) := by decide +kernel
theorem dX5_cut_41 : decode cX5_cut 41 = .ok (.getfield 19, 3) := by decide +kernel
theorem dX5_cut_44 : decode cX5_cut 44 = .ok (.iload_n 1, 1) := by decide +kernel
theorem dX5_cut_45 : decode cX5_cut 45 = .ok (.iload_n 2, 1) := by decide +kernel
theorem dX5_cut_46 : decode cX5_cut 46 = .ok (.invokevirtual 174, 3) := by decide +kernel
theorem dX5_cut_49 : decode cX5_cut 49 = .ok (.iload_n 3, 1) := by decide +kernel
theorem dX5_cut_50 : decode cX5_cut 50 = .ok (.ireturn, 1) := by decide +kernel
theorem dX5_mix_0 : decode cX5_mix 0 = .ok (.aload_n 0, 1) := by decide +kernel
theorem dX5_mix_1 : decode cX5_mix 1 = .ok (.iload_n 1, 1) := by decide +kernel
theorem dX5_mix_2 : decode cX5_mix 2 = .ok (.iload_n 2, 1) := by decide +kernel
theorem dX5_mix_3 : decode cX5_mix 3 = .ok (.iload_n 3, 1) := by decide +kernel
theorem dX5_mix_4 : decode cX5_mix 4 = .ok (.iload 4, 2) := by decide +kernel
theorem dX5_mix_6 : decode cX5_mix 6 = .ok (.invokevirtual 178, 3) := by decide +kernel
theorem dX5_mix_9 : decode cX5_mix 9 = .ok (.ifCond .ne 5, 3) := by decide +kernel
theorem dX5_mix_12 : decode cX5_mix 12 = .ok (.iconst (-1), 1) := by decide +kernel
theorem dX5_mix_13 : decode cX5_mix 13 = .ok (.ireturn, 1) := by decide +kernel
theorem dX5_mix_14 : decode cX5_mix 14 = .ok (.aload_n 0, 1) := by decide +kernel
theorem dX5_mix_15 : decode cX5_mix 15 = .ok (.getfield 19, 3) := by decide +kernel
theorem dX5_mix_18 : decode cX5_mix 18 = .ok (.iload_n 1, 1) := by decide +kernel
theorem dX5_mix_19 : decode cX5_mix 19 = .ok (.iload_n 2, 1) := by decide +kernel
theorem dX5_mix_20 : decode cX5_mix 20 = .ok (.iload_n 3, 1) := by decide +kernel
theorem dX5_mix_21 : decode cX5_mix 21 = .ok (.iload 4, 2) := by decide +kernel
theorem dX5_mix_23 : decode cX5_mix 23 = .ok (.invokevirtual 181, 3) := by decide +kernel
theorem dX5_mix_26 : decode cX5_mix 26 = .ok (.iconst 1, 1) := by decide +kernel
theorem dX5_mix_27 : decode cX5_mix 27 = .ok (.ireturn, 1) := by decide +kernel
theorem dX5_times_0 : decode cX5_times 0 = .ok (.aload_n 0, 1) := by decide +kernel
theorem dX5_times_1 : decode cX5_times 1 = .ok (.getfield 19, 3) := by decide +kernel
theorem dX5_times_4 : decode cX5_times 4 = .ok (.iload_n 1, 1) := by decide +kernel
theorem dX5_times_5 : decode cX5_times 5 = .ok (.iload_n 2, 1) := by decide +kernel
theorem dX5_times_6 : decode cX5_times 6 = .ok (.invokevirtual 184, 3) := by decide +kernel
theorem dX5_times_9 : decode cX5_times 9 = .ok (.ifCond .eq 11, 3) := by decide +kernel
theorem dX5_times_12 : decode cX5_times 12 = .ok (.aload_n 0, 1) := by decide +kernel
theorem dX5_times_13 : decode cX5_times 13 = .ok (.iload_n 3, 1) := by decide +kernel
theorem dX5_times_14 : decode cX5_times 14 = .ok (.invokevirtual 188, 3) := by decide +kernel
theorem dX5_times_17 : decode cX5_times 17 = .ok (.ifCond .ne 5, 3) := by decide +kernel
theorem dX5_times_20 : decode cX5_times 20 = .ok (.iconst (-1), 1) := by decide +kernel
theorem dX5_times_21 : decode cX5_times 21 = .ok (.ireturn, 1) := by decide +kernel
theorem dX5_times_22 : decode cX5_times 22 = .ok (.aload_n 0, 1) := by decide +kernel
theorem dX5_times_23 : decode cX5_times 23 = .ok (.getfield 19, 3) := by decide +kernel
theorem dX5_times_26 : decode cX5_times 26 = .ok (.iload_n 1, 1) := by decide +kernel
theorem dX5_times_27 : decode cX5_times 27 = .ok (.iload_n 2, 1) := by decide +kernel
theorem dX5_times_28 : decode cX5_times 28 = .ok (.iload_n 3, 1) := by decide +kernel
theorem dX5_times_29 : decode cX5_times 29 = .ok (.invokevirtual 191, 3) := by decide +kernel
theorem dX5_times_32 : decode cX5_times 32 = .ok (.iconst 1, 1) := by decide +kernel
theorem dX5_times_33 : decode cX5_times 33 = .ok (.ireturn, 1) := by decide +kernel
theorem dX5_swap_0 : decode cX5_swap 0 = .ok (.aload_n 0, 1) := by decide +kernel
theorem dX5_swap_1 : decode cX5_swap 1 = .ok (.getfield 19, 3) := by decide +kernel
theorem dX5_swap_4 : decode cX5_swap 4 = .ok (.iload_n 1, 1) := by decide +kernel
theorem dX5_swap_5 : decode cX5_swap 5 = .ok (.iload_n 2, 1) := by decide +kernel
theorem dX5_swap_6 : decode cX5_swap 6 = .ok (.invokevirtual 184, 3) := by decide +kernel
theorem dX5_swap_9 : decode cX5_swap 9 = .ok (.ifCond .eq 15, 3) := by decide +kernel
theorem dX5_swap_12 : decode cX5_swap 12 = .ok (.aload_n 0, 1) := by decide +kernel
theorem dX5_swap_13 : decode cX5_swap 13 = .ok (.getfield 19, 3) := by decide +kernel
theorem dX5_swap_16 : decode cX5_swap 16 = .ok (.iload_n 1, 1) := by decide +kernel
theorem dX5_swap_17 : decode cX5_swap 17 = .ok (.iload_n 3, 1) := by decide +kernel
theorem dX5_swap_18 : decode cX5_swap 18 = .ok (.invokevirtual 184, 3) := by decide +kernel
theorem dX5_swap_21 : decode cX5_swap 21 = .ok (.ifCond .ne 5, 3) := by decide +kernel
theorem dX5_swap_24 : decode cX5_swap 24 = .ok (.iconst (-1), 1) := by decide +kernel
theorem dX5_swap_25 : decode cX5_swap 25 = .ok (.ireturn, 1) := by decide +kernel
theorem dX5_swap_26 : decode cX5_swap 26 = .ok (.aload_n 0, 1) := by decide +kernel
theorem dX5_swap_27 : decode cX5_swap 27 = .ok (.getfield 19, 3) := by decide +kernel
theorem dX5_swap_30 : decode cX5_swap 30 = .ok (.iload_n 1, 1) := by decide +kernel
theorem dX5_swap_31 : decode cX5_swap 31 = .ok (.iload_n 2, 1) := by decide +kernel
theorem dX5_swap_32 : decode cX5_swap 32 = .ok (.iload_n 3, 1) := by decide +kernel
theorem dX5_swap_33 : decode cX5_swap 33 = .ok (.invokevirtual 195, 3) := by decide +kernel
theorem dX5_swap_36 : decode cX5_swap 36 = .ok (.iconst 1, 1) := by decide +kernel
theorem dX5_swap_37 : decode cX5_swap 37 = .ok (.ireturn, 1) := by decide +kernel
theorem dX5_scramble_0 : decode cX5_scramble 0 = .ok (.iload_n 2, 1) := by decide +kernel
theorem dX5_scramble_1 : decode cX5_scramble 1 = .ok (.ifCond .lt 9, 3) := by decide +kernel
theorem dX5_scramble_4 : decode cX5_scramble 4 = .ok (.iload_n 2, 1) := by decide +kernel
theorem dX5_scramble_5 : decode cX5_scramble 5 = .ok (.bipush 100, 2) := by decide +kernel
theorem dX5_scramble_7 : decode cX5_scramble 7 = .ok (.if_icmp .le 5, 3) := by decide +kernel
theorem dX5_scramble_10 : decode cX5_scramble 10 = .ok (.iconst (-1), 1) := by decide +kernel
theorem dX5_scramble_11 : decode cX5_scramble 11 = .ok (.ireturn, 1) := by decide +kernel
theorem dX5_scramble_12 : decode cX5_scramble 12 = .ok (.iconst 0, 1) := by decide +kernel
theorem dX5_scramble_13 : decode cX5_scramble 13 = .ok (.istore_n 3, 1) := by decide +kernel
theorem dX5_scramble_14 : decode cX5_scramble 14 = .ok (.iload_n 1, 1) := by decide +kernel
theorem dX5_scramble_15 : decode cX5_scramble 15 = .ok (.istore 4, 2) := by decide +kernel
theorem dX5_scramble_17 : decode cX5_scramble 17 = .ok (.iconst 0, 1) := by decide +kernel
theorem dX5_scramble_18 : decode cX5_scramble 18 = .ok (.istore 5, 2) := by decide +kernel
theorem dX5_scramble_20 : decode cX5_scramble 20 = .ok (.iload 5, 2) := by decide +kernel
theorem dX5_scramble_22 : decode cX5_scramble 22 = .ok (.iload_n 2, 1) := by decide +kernel
theorem dX5_scramble_23 : decode cX5_scramble 23 = .ok (.if_icmp .ge 39, 3) := by decide +kernel
theorem dX5_scramble_26 : decode cX5_scramble 26 = .ok (.iload 4, 2) := by decide +kernel
theorem dX5_scramble_28 : decode cX5_scramble 28 = .ok (.ldc 198, 2) := by decide +kernel
theorem dX5_scramble_30 : decode cX5_scramble 30 = .ok (.imul, 1) := by decide +kernel
theorem dX5_scramble_31 : decode cX5_scramble 31 = .ok (.sipush 12345, 3) := by decide +kernel
theorem dX5_scramble_34 : decode cX5_scramble 34 = .ok (.iadd, 1) := by decide +kernel
theorem dX5_scramble_35 : decode cX5_scramble 35 = .ok (.istore 4, 2) := by decide +kernel
theorem dX5_scramble_37 : decode cX5_scramble 37 = .ok (.aload_n 0, 1) := by decide +kernel
theorem dX5_scramble_38 : decode cX5_scramble 38 = .ok (.iload 4, 2) := by decide +kernel
theorem dX5_scramble_40 : decode cX5_scramble 40 = .ok (.bipush 16, 2) := by decide +kernel
theorem dX5_scramble_42 : decode cX5_scramble 42 = .ok (.iushr, 1) := by decide +kernel
theorem dX5_scramble_43 : decode cX5_scramble 43 = .ok (.sipush 32767, 3) := by decide +kernel
theorem dX5_scramble_46 : decode cX5_scramble 46 = .ok (.iand, 1) := by decide +kernel
theorem dX5_scramble_47 : decode cX5_scramble 47 = .ok (.invokevirtual 199, 3) := by decide +kernel
theorem dX5_scramble_50 : decode cX5_scramble 50 = .ok (.ifCond .eq 6, 3) := by decide +kernel
theorem dX5_scramble_53 : decode cX5_scramble 53 = .ok (.iinc 3 1, 3) := by decide +kernel
theorem dX5_scramble_56 : decode cX5_scramble 56 = .ok (.iinc 5 1, 3) := by decide +kernel
theorem dX5_scramble_59 : decode cX5_scramble 59 = .ok (.goto (-39), 3) := by decide +kernel
theorem dX5_scramble_62 : decode cX5_scramble 62 = .ok (.iload_n 3, 1) := by decide +kernel
theorem dX5_scramble_63 : decode cX5_scramble 63 = .ok (.ireturn, 1) := by decide +kernel
theorem dX5_turn_0 : decode cX5_turn 0 = .ok (.iload_n 1, 1) := by decide +kernel
theorem dX5_turn_1 : decode cX5_turn 1 = .ok (.tableswitch 57 0 2 #[27, 37, 47], 27) := by decide +kernel
theorem dX5_turn_28 : decode cX5_turn 28 = .ok (.aload_n 0, 1) := by decide +kernel
theorem dX5_turn_29 : decode cX5_turn 29 = .ok (.getfield 19, 3) := by decide +kernel
theorem dX5_turn_32 : decode cX5_turn 32 = .ok (.invokevirtual 202, 3) := by decide +kernel
theorem dX5_turn_35 : decode cX5_turn 35 = .ok (.goto 25, 3) := by decide +kernel
theorem dX5_turn_38 : decode cX5_turn 38 = .ok (.aload_n 0, 1) := by decide +kernel
theorem dX5_turn_39 : decode cX5_turn 39 = .ok (.getfield 19, 3) := by decide +kernel
theorem dX5_turn_42 : decode cX5_turn 42 = .ok (.invokevirtual 205, 3) := by decide +kernel
theorem dX5_turn_45 : decode cX5_turn 45 = .ok (.goto 15, 3) := by decide +kernel
theorem dX5_turn_48 : decode cX5_turn 48 = .ok (.aload_n 0, 1) := by decide +kernel
theorem dX5_turn_49 : decode cX5_turn 49 = .ok (.getfield 19, 3) := by decide +kernel
theorem dX5_turn_52 : decode cX5_turn 52 = .ok (.invokevirtual 208, 3) := by decide +kernel
theorem dX5_turn_55 : decode cX5_turn 55 = .ok (.goto 5, 3) := by decide +kernel
theorem dX5_turn_58 : decode cX5_turn 58 = .ok (.iconst (-1), 1) := by decide +kernel
theorem dX5_turn_59 : decode cX5_turn 59 = .ok (.ireturn, 1) := by decide +kernel
theorem dX5_turn_60 : decode cX5_turn 60 = .ok (.aload_n 0, 1) := by decide +kernel
theorem dX5_turn_61 : decode cX5_turn 61 = .ok (.getfield 19, 3) := by decide +kernel
theorem dX5_turn_64 : decode cX5_turn 64 = .ok (.invokevirtual 170, 3) := by decide +kernel
theorem dX5_turn_67 : decode cX5_turn 67 = .ok (.ireturn, 1) := by decide +kernel
theorem dX5_mixByNumber_0 : decode cX5_mixByNumber 0 = .ok (.iload_n 1, 1) := by decide +kernel
theorem dX5_mixByNumber_1 : decode cX5_mixByNumber 1 = .ok (.iconst 2, 1) := by decide +kernel
theorem dX5_mixByNumber_2 : decode cX5_mixByNumber 2 = .ok (.irem, 1) := by decide +kernel
theorem dX5_mixByNumber_3 : decode cX5_mixByNumber 3 = .ok (.istore_n 2, 1) := by decide +kernel
theorem dX5_mixByNumber_4 : decode cX5_mixByNumber 4 = .ok (.aload_n 0, 1) := by decide +kernel
theorem dX5_mixByNumber_5 : decode cX5_mixByNumber 5 = .ok (.getfield 19, 3) := by decide +kernel
theorem dX5_mixByNumber_8 : decode cX5_mixByNumber 8 = .ok (.iload_n 2, 1) := by decide +kernel
theorem dX5_mixByNumber_9 : decode cX5_mixByNumber 9 = .ok (.invokevirtual 162, 3) := by decide +kernel
theorem dX5_mixByNumber_12 : decode cX5_mixByNumber 12 = .ok (.istore_n 3, 1) := by decide +kernel
theorem dX5_mixByNumber_13 : decode cX5_mixByNumber 13 = .ok (.iload_n 3, 1) := by decide +kernel
theorem dX5_mixByNumber_14 : decode cX5_mixByNumber 14 = .ok (.ifCond .ne 5, 3) := by decide +kernel
theorem dX5_mixByNumber_17 : decode cX5_mixByNumber 17 = .ok (.iconst 0, 1) := by decide +kernel
theorem dX5_mixByNumber_18 : decode cX5_mixByNumber 18 = .ok (.ireturn, 1) := by decide +kernel
theorem dX5_mixByNumber_19 : decode cX5_mixByNumber 19 = .ok (.iload_n 1, 1) := by decide +kernel
theorem dX5_mixByNumber_20 : decode cX5_mixByNumber 20 = .ok (.iconst 2, 1) := by decide +kernel
theorem dX5_mixByNumber_21 : decode cX5_mixByNumber 21 = .ok (.idiv, 1) := by decide +kernel
theorem dX5_mixByNumber_22 : decode cX5_mixByNumber 22 = .ok (.iload_n 3, 1) := by decide +kernel
theorem dX5_mixByNumber_23 : decode cX5_mixByNumber 23 = .ok (.invokestatic 211, 3) := by decide +kernel
theorem dX5_mixByNumber_26 : decode cX5_mixByNumber 26 = .ok (.istore 4, 2) := by decide +kernel
theorem dX5_mixByNumber_28 : decode cX5_mixByNumber 28 = .ok (.iload_n 1, 1) := by decide +kernel
theorem dX5_mixByNumber_29 : decode cX5_mixByNumber 29 = .ok (.bipush 8, 2) := by decide +kernel
theorem dX5_mixByNumber_31 : decode cX5_mixByNumber 31 = .ok (.idiv, 1) := by decide +kernel
theorem dX5_mixByNumber_32 : decode cX5_mixByNumber 32 = .ok (.iload_n 3, 1) := by decide +kernel
theorem dX5_mixByNumber_33 : decode cX5_mixByNumber 33 = .ok (.invokestatic 211, 3) := by decide +kernel
theorem dX5_mixByNumber_36 : decode cX5_mixByNumber 36 = .ok (.istore 5, 2) := by decide +kernel
theorem dX5_mixByNumber_38 : decode cX5_mixByNumber 38 = .ok (.iload_n 1, 1) := by decide +kernel
theorem dX5_mixByNumber_39 : decode cX5_mixByNumber 39 = .ok (.bipush 32, 2) := by decide +kernel
theorem dX5_mixByNumber_41 : decode cX5_mixByNumber 41 = .ok (.idiv, 1) := by decide +kernel
theorem dX5_mixByNumber_42 : decode cX5_mixByNumber 42 = .ok (.aload_n 0, 1) := by decide +kernel
theorem dX5_mixByNumber_43 : decode cX5_mixByNumber 43 = .ok (.getfield 19, 3) := by decide +kernel
theorem dX5_mixByNumber_46 : decode cX5_mixByNumber 46 = .ok (.getfield 88, 3) := by decide +kernel
theorem dX5_mixByNumber_49 : decode cX5_mixByNumber 49 = .ok (.invokestatic 211, 3) := by decide +kernel
theorem dX5_mixByNumber_52 : decode cX5_mixByNumber 52 = .ok (.istore 6, 2) := by decide +kernel
theorem dX5_mixByNumber_54 : decode cX5_mixByNumber 54 = .ok (.aload_n 0, 1) := by decide +kernel
theorem dX5_mixByNumber_55 : decode cX5_mixByNumber 55 = .ok (.iload_n 2, 1) := by decide +kernel
theorem dX5_mixByNumber_56 : decode cX5_mixByNumber 56 = .ok (.iload 4, 2) := by decide +kernel
theorem dX5_mixByNumber_58 : decode cX5_mixByNumber 58 = .ok (.iload 5, 2) := by decide +kernel
theorem dX5_mixByNumber_60 : decode cX5_mixByNumber 60 = .ok (.iload 6, 2) := by decide +kernel
theorem dX5_mixByNumber_62 : decode cX5_mixByNumber 62 = .ok (.invokevirtual 178, 3) := by decide +kernel
theorem dX5_mixByNumber_65 : decode cX5_mixByNumber 65 = .ok (.ifCond .ne 5, 3) := by decide +kernel
theorem dX5_mixByNumber_68 : decode cX5_mixByNumber 68 = .ok (.iconst 0, 1) := by decide +kernel
theorem dX5_mixByNumber_69 : decode cX5_mixByNumber 69 = .ok (.ireturn, 1) := by decide +kernel
theorem dX5_mixByNumber_70 : decode cX5_mixByNumber 70 = .ok (.aload_n 0, 1) := by decide +kernel
theorem dX5_mixByNumber_71 : decode cX5_mixByNumber 71 = .ok (.getfield 19, 3) := by decide +kernel
theorem dX5_mixByNumber_74 : decode cX5_mixByNumber 74 = .ok (.iload_n 2, 1) := by decide +kernel
theorem dX5_mixByNumber_75 : decode cX5_mixByNumber 75 = .ok (.iload 4, 2) := by decide +kernel
theorem dX5_mixByNumber_77 : decode cX5_mixByNumber 77 = .ok (.iload 5, 2) := by decide +kernel
theorem dX5_mixByNumber_79 : decode cX5_mixByNumber 79 = .ok (.iload 6, 2) := by decide +kernel
theorem dX5_mixByNumber_81 : decode cX5_mixByNumber 81 = .ok (.invokevirtual 181, 3) := by decide +kernel
theorem dX5_mixByNumber_84 : decode cX5_mixByNumber 84 = .ok (.iconst 1, 1) := by decide +kernel
theorem dX5_mixByNumber_85 : decode cX5_mixByNumber 85 = .ok (.ireturn, 1) := by decide +kernel
theorem dX5_maySet_0 : decode cX5_maySet 0 = .ok (.aload_n 0, 1) := by decide +kernel
theorem dX5_maySet_1 : decode cX5_maySet 1 = .ok (.getfield 19, 3) := by decide +kernel
theorem dX5_maySet_4 : decode cX5_maySet 4 = .ok (.iload_n 1, 1) := by decide +kernel
theorem dX5_maySet_5 : decode cX5_maySet 5 = .ok (.iload_n 2, 1) := by decide +kernel
theorem dX5_maySet_6 : decode cX5_maySet 6 = .ok (.iload_n 3, 1) := by decide +kernel
theorem dX5_maySet_7 : decode cX5_maySet 7 = .ok (.invokevirtual 105, 3) := by decide +kernel
theorem dX5_maySet_10 : decode cX5_maySet 10 = .ok (.ifCond .eq 24, 3) := by decide +kernel
theorem dX5_maySet_13 : decode cX5_maySet 13 = .ok (.iload 4, 2) := by decide +kernel
theorem dX5_maySet_15 : decode cX5_maySet 15 = .ok (.ifCond .lt 19, 3) := by decide +kernel
theorem dX5_maySet_18 : decode cX5_maySet 18 = .ok (.iload 4, 2) := by decide +kernel
theorem dX5_maySet_20 : decode cX5_maySet 20 = .ok (.aload_n 0, 1) := by decide +kernel
theorem dX5_maySet_21 : decode cX5_maySet 21 = .ok (.getfield 19, 3) := by decide +kernel
theorem dX5_maySet_24 : decode cX5_maySet 24 = .ok (.getfield 88, 3) := by decide +kernel
theorem dX5_maySet_27 : decode cX5_maySet 27 = .ok (.if_icmp .ge 7, 3) := by decide +kernel
theorem dX5_maySet_30 : decode cX5_maySet 30 = .ok (.iconst 1, 1) := by decide +kernel
theorem dX5_maySet_31 : decode cX5_maySet 31 = .ok (.goto 4, 3) := by decide +kernel
theorem dX5_maySet_34 : decode cX5_maySet 34 = .ok (.iconst 0, 1) := by decide +kernel
theorem dX5_maySet_35 : decode cX5_maySet 35 = .ok (.ireturn, 1) := by decide +kernel
theorem dX5_mayMix_0 : decode cX5_mayMix 0 = .ok (.iload_n 2, 1) := by decide +kernel
theorem dX5_mayMix_1 : decode cX5_mayMix 1 = .ok (.iload_n 3, 1) := by decide +kernel
theorem dX5_mayMix_2 : decode cX5_mayMix 2 = .ok (.if_icmp .eq 40, 3) := by decide +kernel
theorem dX5_mayMix_5 : decode cX5_mayMix 5 = .ok (.aload_n 0, 1) := by decide +kernel
theorem dX5_mayMix_6 : decode cX5_mayMix 6 = .ok (.getfield 19, 3) := by decide +kernel
theorem dX5_mayMix_9 : decode cX5_mayMix 9 = .ok (.iload_n 1, 1) := by decide +kernel
theorem dX5_mayMix_10 : decode cX5_mayMix 10 = .ok (.iload_n 2, 1) := by decide +kernel
theorem dX5_mayMix_11 : decode cX5_mayMix 11 = .ok (.invokevirtual 184, 3) := by decide +kernel
theorem dX5_mayMix_14 : decode cX5_mayMix 14 = .ok (.ifCond .eq 28, 3) := by decide +kernel
theorem dX5_mayMix_17 : decode cX5_mayMix 17 = .ok (.aload_n 0, 1) := by decide +kernel
theorem dX5_mayMix_18 : decode cX5_mayMix 18 = .ok (.getfield 19, 3) := by decide +kernel
theorem dX5_mayMix_21 : decode cX5_mayMix 21 = .ok (.iload_n 1, 1) := by decide +kernel
theorem dX5_mayMix_22 : decode cX5_mayMix 22 = .ok (.iload_n 3, 1) := by decide +kernel
theorem dX5_mayMix_23 : decode cX5_mayMix 23 = .ok (.invokevirtual 184, 3) := by decide +kernel
theorem dX5_mayMix_26 : decode cX5_mayMix 26 = .ok (.ifCond .eq 16, 3) := by decide +kernel
theorem dX5_mayMix_29 : decode cX5_mayMix 29 = .ok (.aload_n 0, 1) := by decide +kernel
theorem dX5_mayMix_30 : decode cX5_mayMix 30 = .ok (.iload 4, 2) := by decide +kernel
theorem dX5_mayMix_32 : decode cX5_mayMix 32 = .ok (.invokevirtual 188, 3) := by decide +kernel
theorem dX5_mayMix_35 : decode cX5_mayMix 35 = .ok (.ifCond .eq 7, 3) := by decide +kernel
theorem dX5_mayMix_38 : decode cX5_mayMix 38 = .ok (.iconst 1, 1) := by decide +kernel
theorem dX5_mayMix_39 : decode cX5_mayMix 39 = .ok (.goto 4, 3) := by decide +kernel
theorem dX5_mayMix_42 : decode cX5_mayMix 42 = .ok (.iconst 0, 1) := by decide +kernel
theorem dX5_mayMix_43 : decode cX5_mayMix 43 = .ok (.ireturn, 1) := by decide +kernel
theorem dX5_isFactor_0 : decode cX5_isFactor 0 = .ok (.iload_n 1, 1) := by decide +kernel
theorem dX5_isFactor_1 : decode cX5_isFactor 1 = .ok (.iconst 1, 1) := by decide +kernel
theorem dX5_isFactor_2 : decode cX5_isFactor 2 = .ok (.if_icmp .lt 18, 3) := by decide +kernel
theorem dX5_isFactor_5 : decode cX5_isFactor 5 = .ok (.iload_n 1, 1) := by decide +kernel
theorem dX5_isFactor_6 : decode cX5_isFactor 6 = .ok (.aload_n 0, 1) := by decide +kernel
theorem dX5_isFactor_7 : decode cX5_isFactor 7 = .ok (.getfield 19, 3) := by decide +kernel
theorem dX5_isFactor_10 : decode cX5_isFactor 10 = .ok (.getfield 88, 3) := by decide +kernel
theorem dX5_isFactor_13 : decode cX5_isFactor 13 = .ok (.if_icmp .ge 7, 3) := by decide +kernel
theorem dX5_isFactor_16 : decode cX5_isFactor 16 = .ok (.iconst 1, 1) := by decide +kernel
theorem dX5_isFactor_17 : decode cX5_isFactor 17 = .ok (.goto 4, 3) := by decide +kernel
theorem dX5_isFactor_20 : decode cX5_isFactor 20 = .ok (.iconst 0, 1) := by decide +kernel
theorem dX5_isFactor_21 : decode cX5_isFactor 21 = .ok (.ireturn, 1) := by decide +kernel
theorem dX5_keep_0 : decode cX5_keep 0 = .ok (.iload_n 1, 1) := by decide +kernel
theorem dX5_keep_1 : decode cX5_keep 1 = .ok (.invokestatic 215, 3) := by decide +kernel
theorem dX5_keep_4 : decode cX5_keep 4 = .ok (.ifCond .ne 5, 3) := by decide +kernel
theorem dX5_keep_7 : decode cX5_keep 7 = .ok (.iconst (-1), 1) := by decide +kernel
theorem dX5_keep_8 : decode cX5_keep 8 = .ok (.ireturn, 1) := by decide +kernel
theorem dX5_keep_9 : decode cX5_keep 9 = .ok (.aload_n 0, 1) := by decide +kernel
theorem dX5_keep_10 : decode cX5_keep 10 = .ok (.getfield 27, 3) := by decide +kernel
theorem dX5_keep_13 : decode cX5_keep 13 = .ok (.iload_n 1, 1) := by decide +kernel
theorem dX5_keep_14 : decode cX5_keep 14 = .ok (.baload, 1) := by decide +kernel
theorem dX5_keep_15 : decode cX5_keep 15 = .ok (.ifCond .eq 7, 3) := by decide +kernel
theorem dX5_keep_18 : decode cX5_keep 18 = .ok (.iconst 1, 1) := by decide +kernel
theorem dX5_keep_19 : decode cX5_keep 19 = .ok (.goto 4, 3) := by decide +kernel
theorem dX5_keep_22 : decode cX5_keep 22 = .ok (.iconst 0, 1) := by decide +kernel
theorem dX5_keep_23 : decode cX5_keep 23 = .ok (.istore_n 2, 1) := by decide +kernel
theorem dX5_keep_24 : decode cX5_keep 24 = .ok (.aload_n 0, 1) := by decide +kernel
theorem dX5_keep_25 : decode cX5_keep 25 = .ok (.getfield 23, 3) := by decide +kernel
theorem dX5_keep_28 : decode cX5_keep 28 = .ok (.iload_n 1, 1) := by decide +kernel
theorem dX5_keep_29 : decode cX5_keep 29 = .ok (.aaload, 1) := by decide +kernel
theorem dX5_keep_30 : decode cX5_keep 30 = .ok (.aload_n 0, 1) := by decide +kernel
theorem dX5_keep_31 : decode cX5_keep 31 = .ok (.getfield 19, 3) := by decide +kernel
theorem dX5_keep_34 : decode cX5_keep 34 = .ok (.invokevirtual 75, 3) := by decide +kernel
theorem dX5_keep_37 : decode cX5_keep 37 = .ok (.aload_n 0, 1) := by decide +kernel
theorem dX5_keep_38 : decode cX5_keep 38 = .ok (.getfield 27, 3) := by decide +kernel
theorem dX5_keep_41 : decode cX5_keep 41 = .ok (.iload_n 1, 1) := by decide +kernel
theorem dX5_keep_42 : decode cX5_keep 42 = .ok (.iconst 1, 1) := by decide +kernel
theorem dX5_keep_43 : decode cX5_keep 43 = .ok (.bastore, 1) := by decide +kernel
theorem dX5_keep_44 : decode cX5_keep 44 = .ok (.iload_n 2, 1) := by decide +kernel
theorem dX5_keep_45 : decode cX5_keep 45 = .ok (.ireturn, 1) := by decide +kernel
theorem dX5_back_0 : decode cX5_back 0 = .ok (.iload_n 1, 1) := by decide +kernel
theorem dX5_back_1 : decode cX5_back 1 = .ok (.invokestatic 215, 3) := by decide +kernel
theorem dX5_back_4 : decode cX5_back 4 = .ok (.ifCond .ne 5, 3) := by decide +kernel
theorem dX5_back_7 : decode cX5_back 7 = .ok (.iconst (-1), 1) := by decide +kernel
theorem dX5_back_8 : decode cX5_back 8 = .ok (.ireturn, 1) := by decide +kernel
theorem dX5_back_9 : decode cX5_back 9 = .ok (.aload_n 0, 1) := by decide +kernel
theorem dX5_back_10 : decode cX5_back 10 = .ok (.getfield 27, 3) := by decide +kernel
theorem dX5_back_13 : decode cX5_back 13 = .ok (.iload_n 1, 1) := by decide +kernel
theorem dX5_back_14 : decode cX5_back 14 = .ok (.baload, 1) := by decide +kernel
theorem dX5_back_15 : decode cX5_back 15 = .ok (.ifCond .ne 6, 3) := by decide +kernel
theorem dX5_back_18 : decode cX5_back 18 = .ok (.bipush (-2), 2) := by decide +kernel
theorem dX5_back_20 : decode cX5_back 20 = .ok (.ireturn, 1) := by decide +kernel
theorem dX5_back_21 : decode cX5_back 21 = .ok (.aload_n 0, 1) := by decide +kernel
theorem dX5_back_22 : decode cX5_back 22 = .ok (.getfield 19, 3) := by decide +kernel
theorem dX5_back_25 : decode cX5_back 25 = .ok (.aload_n 0, 1) := by decide +kernel
theorem dX5_back_26 : decode cX5_back 26 = .ok (.getfield 23, 3) := by decide +kernel
theorem dX5_back_29 : decode cX5_back 29 = .ok (.iload_n 1, 1) := by decide +kernel
theorem dX5_back_30 : decode cX5_back 30 = .ok (.aaload, 1) := by decide +kernel
theorem dX5_back_31 : decode cX5_back 31 = .ok (.invokevirtual 75, 3) := by decide +kernel
theorem dX5_back_34 : decode cX5_back 34 = .ok (.aload_n 0, 1) := by decide +kernel
theorem dX5_back_35 : decode cX5_back 35 = .ok (.getfield 19, 3) := by decide +kernel
theorem dX5_back_38 : decode cX5_back 38 = .ok (.invokevirtual 170, 3) := by decide +kernel
theorem dX5_back_41 : decode cX5_back 41 = .ok (.ireturn, 1) := by decide +kernel
theorem dX5_alike_0 : decode cX5_alike 0 = .ok (.iload_n 1, 1) := by decide +kernel
theorem dX5_alike_1 : decode cX5_alike 1 = .ok (.invokestatic 215, 3) := by decide +kernel
theorem dX5_alike_4 : decode cX5_alike 4 = .ok (.ifCond .ne 5, 3) := by decide +kernel
theorem dX5_alike_7 : decode cX5_alike 7 = .ok (.iconst (-1), 1) := by decide +kernel
theorem dX5_alike_8 : decode cX5_alike 8 = .ok (.ireturn, 1) := by decide +kernel
theorem dX5_alike_9 : decode cX5_alike 9 = .ok (.aload_n 0, 1) := by decide +kernel
theorem dX5_alike_10 : decode cX5_alike 10 = .ok (.getfield 27, 3) := by decide +kernel
theorem dX5_alike_13 : decode cX5_alike 13 = .ok (.iload_n 1, 1) := by decide +kernel
theorem dX5_alike_14 : decode cX5_alike 14 = .ok (.baload, 1) := by decide +kernel
theorem dX5_alike_15 : decode cX5_alike 15 = .ok (.ifCond .ne 6, 3) := by decide +kernel
theorem dX5_alike_18 : decode cX5_alike 18 = .ok (.bipush (-2), 2) := by decide +kernel
theorem dX5_alike_20 : decode cX5_alike 20 = .ok (.ireturn, 1) := by decide +kernel
theorem dX5_alike_21 : decode cX5_alike 21 = .ok (.aload_n 0, 1) := by decide +kernel
theorem dX5_alike_22 : decode cX5_alike 22 = .ok (.getfield 41, 3) := by decide +kernel
theorem dX5_alike_25 : decode cX5_alike 25 = .ok (.aload_n 0, 1) := by decide +kernel
theorem dX5_alike_26 : decode cX5_alike 26 = .ok (.getfield 19, 3) := by decide +kernel
theorem dX5_alike_29 : decode cX5_alike 29 = .ok (.aload_n 0, 1) := by decide +kernel
theorem dX5_alike_30 : decode cX5_alike 30 = .ok (.getfield 45, 3) := by decide +kernel
theorem dX5_alike_33 : decode cX5_alike 33 = .ok (.invokevirtual 218, 3) := by decide +kernel
theorem dX5_alike_36 : decode cX5_alike 36 = .ok (.aload_n 0, 1) := by decide +kernel
theorem dX5_alike_37 : decode cX5_alike 37 = .ok (.getfield 41, 3) := by decide +kernel
theorem dX5_alike_40 : decode cX5_alike 40 = .ok (.aload_n 0, 1) := by decide +kernel
theorem dX5_alike_41 : decode cX5_alike 41 = .ok (.getfield 23, 3) := by decide +kernel
theorem dX5_alike_44 : decode cX5_alike 44 = .ok (.iload_n 1, 1) := by decide +kernel
theorem dX5_alike_45 : decode cX5_alike 45 = .ok (.aaload, 1) := by decide +kernel
theorem dX5_alike_46 : decode cX5_alike 46 = .ok (.aload_n 0, 1) := by decide +kernel
theorem dX5_alike_47 : decode cX5_alike 47 = .ok (.getfield 49, 3) := by decide +kernel
theorem dX5_alike_50 : decode cX5_alike 50 = .ok (.invokevirtual 218, 3) := by decide +kernel
theorem dX5_alike_53 : decode cX5_alike 53 = .ok (.iconst 0, 1) := by decide +kernel
theorem dX5_alike_54 : decode cX5_alike 54 = .ok (.istore_n 2, 1) := by decide +kernel
theorem dX5_alike_55 : decode cX5_alike 55 = .ok (.iload_n 2, 1) := by decide +kernel
theorem dX5_alike_56 : decode cX5_alike 56 = .ok (.bipush 45, 2) := by decide +kernel
theorem dX5_alike_58 : decode cX5_alike 58 = .ok (.if_icmp .ge 26, 3) := by decide +kernel
theorem dX5_alike_61 : decode cX5_alike 61 = .ok (.aload_n 0, 1) := by decide +kernel
theorem dX5_alike_62 : decode cX5_alike 62 = .ok (.getfield 45, 3) := by decide +kernel
theorem dX5_alike_65 : decode cX5_alike 65 = .ok (.iload_n 2, 1) := by decide +kernel
theorem dX5_alike_66 : decode cX5_alike 66 = .ok (.iaload, 1) := by decide +kernel
theorem dX5_alike_67 : decode cX5_alike 67 = .ok (.aload_n 0, 1) := by decide +kernel
theorem dX5_alike_68 : decode cX5_alike 68 = .ok (.getfield 49, 3) := by decide +kernel
theorem dX5_alike_71 : decode cX5_alike 71 = .ok (.iload_n 2, 1) := by decide +kernel
theorem dX5_alike_72 : decode cX5_alike 72 = .ok (.iaload, 1) := by decide +kernel
theorem dX5_alike_73 : decode cX5_alike 73 = .ok (.if_icmp .eq 5, 3) := by decide +kernel
theorem dX5_alike_76 : decode cX5_alike 76 = .ok (.iconst 0, 1) := by decide +kernel
theorem dX5_alike_77 : decode cX5_alike 77 = .ok (.ireturn, 1) := by decide +kernel
theorem dX5_alike_78 : decode cX5_alike 78 = .ok (.iinc 2 1, 3) := by decide +kernel
theorem dX5_alike_81 : decode cX5_alike 81 = .ok (.goto (-26), 3) := by decide +kernel
theorem dX5_alike_84 : decode cX5_alike 84 = .ok (.iconst 1, 1) := by decide +kernel
theorem dX5_alike_85 : decode cX5_alike 85 = .ok (.ireturn, 1) := by decide +kernel
theorem dX5_isImage_0 : decode cX5_isImage 0 = .ok (.iload_n 0, 1) := by decide +kernel
theorem dX5_isImage_1 : decode cX5_isImage 1 = .ok (.ifCond .lt 12, 3) := by decide +kernel
theorem dX5_isImage_4 : decode cX5_isImage 4 = .ok (.iload_n 0, 1) := by decide +kernel
theorem dX5_isImage_5 : decode cX5_isImage 5 = .ok (.iconst 2, 1) := by decide +kernel
theorem dX5_isImage_6 : decode cX5_isImage 6 = .ok (.if_icmp .ge 7, 3) := by decide +kernel
theorem dX5_isImage_9 : decode cX5_isImage 9 = .ok (.iconst 1, 1) := by decide +kernel
theorem dX5_isImage_10 : decode cX5_isImage 10 = .ok (.goto 4, 3) := by decide +kernel
theorem dX5_isImage_13 : decode cX5_isImage 13 = .ok (.iconst 0, 1) := by decide +kernel
theorem dX5_isImage_14 : decode cX5_isImage 14 = .ok (.ireturn, 1) := by decide +kernel
theorem dX5_sheet_0 : decode cX5_sheet 0 = .ok (.iload_n 1, 1) := by decide +kernel
theorem dX5_sheet_1 : decode cX5_sheet 1 = .ok (.invokestatic 222, 3) := by decide +kernel
theorem dX5_sheet_4 : decode cX5_sheet 4 = .ok (.ifCond .eq 16, 3) := by decide +kernel
theorem dX5_sheet_7 : decode cX5_sheet 7 = .ok (.iload_n 2, 1) := by decide +kernel
theorem dX5_sheet_8 : decode cX5_sheet 8 = .ok (.invokestatic 225, 3) := by decide +kernel
theorem dX5_sheet_11 : decode cX5_sheet 11 = .ok (.ifCond .eq 9, 3) := by decide +kernel
theorem dX5_sheet_14 : decode cX5_sheet 14 = .ok (.iload_n 3, 1) := by decide +kernel
theorem dX5_sheet_15 : decode cX5_sheet 15 = .ok (.bipush 40, 2) := by decide +kernel
theorem dX5_sheet_17 : decode cX5_sheet 17 = .ok (.if_icmp .le 5, 3) := by decide +kernel
theorem dX5_sheet_20 : decode cX5_sheet 20 = .ok (.iconst (-1), 1) := by decide +kernel
theorem dX5_sheet_21 : decode cX5_sheet 21 = .ok (.ireturn, 1) := by decide +kernel
theorem dX5_sheet_22 : decode cX5_sheet 22 = .ok (.iload_n 3, 1) := by decide +kernel
theorem dX5_sheet_23 : decode cX5_sheet 23 = .ok (.ifCond .ge 6, 3) := by decide +kernel
theorem dX5_sheet_26 : decode cX5_sheet 26 = .ok (.bipush (-14), 2) := by decide +kernel
theorem dX5_sheet_28 : decode cX5_sheet 28 = .ok (.ireturn, 1) := by decide +kernel
theorem dX5_sheet_29 : decode cX5_sheet 29 = .ok (.aload_n 0, 1) := by decide +kernel
theorem dX5_sheet_30 : decode cX5_sheet 30 = .ok (.getfield 33, 3) := by decide +kernel
theorem dX5_sheet_33 : decode cX5_sheet 33 = .ok (.iload_n 1, 1) := by decide +kernel
theorem dX5_sheet_34 : decode cX5_sheet 34 = .ok (.aaload, 1) := by decide +kernel
theorem dX5_sheet_35 : decode cX5_sheet 35 = .ok (.iload_n 2, 1) := by decide +kernel
theorem dX5_sheet_36 : decode cX5_sheet 36 = .ok (.iload_n 3, 1) := by decide +kernel
theorem dX5_sheet_37 : decode cX5_sheet 37 = .ok (.invokevirtual 228, 3) := by decide +kernel
theorem dX5_sheet_40 : decode cX5_sheet 40 = .ok (.iconst 1, 1) := by decide +kernel
theorem dX5_sheet_41 : decode cX5_sheet 41 = .ok (.ireturn, 1) := by decide +kernel
theorem dX5_lay_0 : decode cX5_lay 0 = .ok (.iload_n 1, 1) := by decide +kernel
theorem dX5_lay_1 : decode cX5_lay 1 = .ok (.invokestatic 222, 3) := by decide +kernel
theorem dX5_lay_4 : decode cX5_lay 4 = .ok (.ifCond .ne 5, 3) := by decide +kernel
theorem dX5_lay_7 : decode cX5_lay 7 = .ok (.iconst (-1), 1) := by decide +kernel
theorem dX5_lay_8 : decode cX5_lay 8 = .ok (.ireturn, 1) := by decide +kernel
theorem dX5_lay_9 : decode cX5_lay 9 = .ok (.aload_n 0, 1) := by decide +kernel
theorem dX5_lay_10 : decode cX5_lay 10 = .ok (.getfield 33, 3) := by decide +kernel
theorem dX5_lay_13 : decode cX5_lay 13 = .ok (.iload_n 1, 1) := by decide +kernel
theorem dX5_lay_14 : decode cX5_lay 14 = .ok (.aaload, 1) := by decide +kernel
theorem dX5_lay_15 : decode cX5_lay 15 = .ok (.iload_n 2, 1) := by decide +kernel
theorem dX5_lay_16 : decode cX5_lay 16 = .ok (.invokevirtual 231, 3) := by decide +kernel
theorem dX5_lay_19 : decode cX5_lay 19 = .ok (.istore 4, 2) := by decide +kernel
theorem dX5_lay_21 : decode cX5_lay 21 = .ok (.iload 4, 2) := by decide +kernel
theorem dX5_lay_23 : decode cX5_lay 23 = .ok (.ifCond .eq 9, 3) := by decide +kernel
theorem dX5_lay_26 : decode cX5_lay 26 = .ok (.bipush (-10), 2) := by decide +kernel
theorem dX5_lay_28 : decode cX5_lay 28 = .ok (.iload 4, 2) := by decide +kernel
theorem dX5_lay_30 : decode cX5_lay 30 = .ok (.isub, 1) := by decide +kernel
theorem dX5_lay_31 : decode cX5_lay 31 = .ok (.ireturn, 1) := by decide +kernel
theorem dX5_lay_32 : decode cX5_lay 32 = .ok (.aload_n 0, 1) := by decide +kernel
theorem dX5_lay_33 : decode cX5_lay 33 = .ok (.getfield 33, 3) := by decide +kernel
theorem dX5_lay_36 : decode cX5_lay 36 = .ok (.iload_n 1, 1) := by decide +kernel
theorem dX5_lay_37 : decode cX5_lay 37 = .ok (.aaload, 1) := by decide +kernel
theorem dX5_lay_38 : decode cX5_lay 38 = .ok (.iload_n 2, 1) := by decide +kernel
theorem dX5_lay_39 : decode cX5_lay 39 = .ok (.iload_n 3, 1) := by decide +kernel
theorem dX5_lay_40 : decode cX5_lay 40 = .ok (.invokevirtual 234, 3) := by decide +kernel
theorem dX5_lay_43 : decode cX5_lay 43 = .ok (.iconst 1, 1) := by decide +kernel
theorem dX5_lay_44 : decode cX5_lay 44 = .ok (.ireturn, 1) := by decide +kernel
theorem dX5_read_0 : decode cX5_read 0 = .ok (.iload_n 1, 1) := by decide +kernel
theorem dX5_read_1 : decode cX5_read 1 = .ok (.invokestatic 222, 3) := by decide +kernel
theorem dX5_read_4 : decode cX5_read 4 = .ok (.ifCond .eq 22, 3) := by decide +kernel
theorem dX5_read_7 : decode cX5_read 7 = .ok (.iload_n 2, 1) := by decide +kernel
theorem dX5_read_8 : decode cX5_read 8 = .ok (.invokestatic 225, 3) := by decide +kernel
theorem dX5_read_11 : decode cX5_read 11 = .ok (.ifCond .eq 15, 3) := by decide +kernel
theorem dX5_read_14 : decode cX5_read 14 = .ok (.iload 4, 2) := by decide +kernel
theorem dX5_read_16 : decode cX5_read 16 = .ok (.ifCond .lt 10, 3) := by decide +kernel
theorem dX5_read_19 : decode cX5_read 19 = .ok (.iload 4, 2) := by decide +kernel
theorem dX5_read_21 : decode cX5_read 21 = .ok (.bipush 10, 2) := by decide +kernel
theorem dX5_read_23 : decode cX5_read 23 = .ok (.if_icmp .le 5, 3) := by decide +kernel
theorem dX5_read_26 : decode cX5_read 26 = .ok (.iconst (-1), 1) := by decide +kernel
theorem dX5_read_27 : decode cX5_read 27 = .ok (.ireturn, 1) := by decide +kernel
theorem dX5_read_28 : decode cX5_read 28 = .ok (.aload_n 0, 1) := by decide +kernel
theorem dX5_read_29 : decode cX5_read 29 = .ok (.getfield 33, 3) := by decide +kernel
theorem dX5_read_32 : decode cX5_read 32 = .ok (.iload_n 1, 1) := by decide +kernel
theorem dX5_read_33 : decode cX5_read 33 = .ok (.aaload, 1) := by decide +kernel
theorem dX5_read_34 : decode cX5_read 34 = .ok (.astore 5, 2) := by decide +kernel
theorem dX5_read_36 : decode cX5_read 36 = .ok (.iconst 0, 1) := by decide +kernel
theorem dX5_read_37 : decode cX5_read 37 = .ok (.istore 6, 2) := by decide +kernel
theorem dX5_read_39 : decode cX5_read 39 = .ok (.iconst 0, 1) := by decide +kernel
theorem dX5_read_40 : decode cX5_read 40 = .ok (.istore 7, 2) := by decide +kernel
theorem dX5_read_42 : decode cX5_read 42 = .ok (.iconst 0, 1) := by decide +kernel
theorem dX5_read_43 : decode cX5_read 43 = .ok (.istore 8, 2) := by decide +kernel
theorem dX5_read_45 : decode cX5_read 45 = .ok (.iload 8, 2) := by decide +kernel
theorem dX5_read_47 : decode cX5_read 47 = .ok (.iload 4, 2) := by decide +kernel
theorem dX5_read_49 : decode cX5_read 49 = .ok (.if_icmp .ge 57, 3) := by decide +kernel
theorem dX5_read_52 : decode cX5_read 52 = .ok (.iload 7, 2) := by decide +kernel
theorem dX5_read_54 : decode cX5_read 54 = .ok (.ifCond .ne 52, 3) := by decide +kernel
theorem dX5_read_57 : decode cX5_read 57 = .ok (.iload_n 3, 1) := by decide +kernel
theorem dX5_read_58 : decode cX5_read 58 = .ok (.iconst 4, 1) := by decide +kernel
theorem dX5_read_59 : decode cX5_read 59 = .ok (.iload 8, 2) := by decide +kernel
theorem dX5_read_61 : decode cX5_read 61 = .ok (.imul, 1) := by decide +kernel
theorem dX5_read_62 : decode cX5_read 62 = .ok (.iadd, 1) := by decide +kernel
theorem dX5_read_63 : decode cX5_read 63 = .ok (.istore 9, 2) := by decide +kernel
theorem dX5_read_65 : decode cX5_read 65 = .ok (.aload 5, 2) := by decide +kernel
theorem dX5_read_67 : decode cX5_read 67 = .ok (.iload_n 2, 1) := by decide +kernel
theorem dX5_read_68 : decode cX5_read 68 = .ok (.iload 9, 2) := by decide +kernel
theorem dX5_read_70 : decode cX5_read 70 = .ok (.invokevirtual 237, 3) := by decide +kernel
theorem dX5_read_73 : decode cX5_read 73 = .ok (.istore 7, 2) := by decide +kernel
theorem dX5_read_75 : decode cX5_read 75 = .ok (.iload 7, 2) := by decide +kernel
theorem dX5_read_77 : decode cX5_read 77 = .ok (.ifCond .ne 23, 3) := by decide +kernel
theorem dX5_read_80 : decode cX5_read 80 = .ok (.aload_n 0, 1) := by decide +kernel
theorem dX5_read_81 : decode cX5_read 81 = .ok (.aload 5, 2) := by decide +kernel
theorem dX5_read_83 : decode cX5_read 83 = .ok (.iload 9, 2) := by decide +kernel
theorem dX5_read_85 : decode cX5_read 85 = .ok (.invokevirtual 240, 3) := by decide +kernel
theorem dX5_read_88 : decode cX5_read 88 = .ok (.ifCond .ne 9, 3) := by decide +kernel
theorem dX5_read_91 : decode cX5_read 91 = .ok (.bipush (-20), 2) := by decide +kernel
theorem dX5_read_93 : decode cX5_read 93 = .ok (.iload 8, 2) := by decide +kernel
theorem dX5_read_95 : decode cX5_read 95 = .ok (.isub, 1) := by decide +kernel
theorem dX5_read_96 : decode cX5_read 96 = .ok (.ireturn, 1) := by decide +kernel
theorem dX5_read_97 : decode cX5_read 97 = .ok (.iinc 6 1, 3) := by decide +kernel
theorem dX5_read_100 : decode cX5_read 100 = .ok (.iinc 8 1, 3) := by decide +kernel
theorem dX5_read_103 : decode cX5_read 103 = .ok (.goto (-58), 3) := by decide +kernel
theorem dX5_read_106 : decode cX5_read 106 = .ok (.iconst 0, 1) := by decide +kernel
end
section
theorem dX5_read_107 : decode cX5_read 107 = .ok (.istore 8, 2) := by decide +kernel
theorem dX5_read_109 : decode cX5_read 109 = .ok (.iload 8, 2) := by decide +kernel
theorem dX5_read_111 : decode cX5_read 111 = .ok (.iload 6, 2) := by decide +kernel
theorem dX5_read_113 : decode cX5_read 113 = .ok (.if_icmp .ge 21, 3) := by decide +kernel
theorem dX5_read_116 : decode cX5_read 116 = .ok (.aload_n 0, 1) := by decide +kernel
theorem dX5_read_117 : decode cX5_read 117 = .ok (.aload 5, 2) := by decide +kernel
theorem dX5_read_119 : decode cX5_read 119 = .ok (.iload_n 3, 1) := by decide +kernel
theorem dX5_read_120 : decode cX5_read 120 = .ok (.iconst 4, 1) := by decide +kernel
theorem dX5_read_121 : decode cX5_read 121 = .ok (.iload 8, 2) := by decide +kernel
theorem dX5_read_123 : decode cX5_read 123 = .ok (.imul, 1) := by decide +kernel
theorem dX5_read_124 : decode cX5_read 124 = .ok (.iadd, 1) := by decide +kernel
theorem dX5_read_125 : decode cX5_read 125 = .ok (.invokevirtual 244, 3) := by decide +kernel
theorem dX5_read_128 : decode cX5_read 128 = .ok (.iinc 8 1, 3) := by decide +kernel
theorem dX5_read_131 : decode cX5_read 131 = .ok (.goto (-22), 3) := by decide +kernel
theorem dX5_read_134 : decode cX5_read 134 = .ok (.aload_n 0, 1) := by decide +kernel
theorem dX5_read_135 : decode cX5_read 135 = .ok (.iload 7, 2) := by decide +kernel
theorem dX5_read_137 : decode cX5_read 137 = .ok (.putfield 248, 3) := by decide +kernel
theorem dX5_read_140 : decode cX5_read 140 = .ok (.iload 6, 2) := by decide +kernel
theorem dX5_read_142 : decode cX5_read 142 = .ok (.ireturn, 1) := by decide +kernel
theorem dX5_torn_0 : decode cX5_torn 0 = .ok (.aload_n 0, 1) := by decide +kernel
theorem dX5_torn_1 : decode cX5_torn 1 = .ok (.getfield 248, 3) := by decide +kernel
theorem dX5_torn_4 : decode cX5_torn 4 = .ok (.ireturn, 1) := by decide +kernel
theorem dX5_count_0 : decode cX5_count 0 = .ok (.iload_n 1, 1) := by decide +kernel
theorem dX5_count_1 : decode cX5_count 1 = .ok (.tableswitch 130 0 5 #[39, 69, 77, 85, 112, 121], 39) := by decide +kernel
theorem dX5_count_40 : decode cX5_count 40 = .ok (.aload_n 0, 1) := by decide +kernel
theorem dX5_count_41 : decode cX5_count 41 = .ok (.getfield 27, 3) := by decide +kernel
theorem dX5_count_44 : decode cX5_count 44 = .ok (.iconst 0, 1) := by decide +kernel
theorem dX5_count_45 : decode cX5_count 45 = .ok (.baload, 1) := by decide +kernel
theorem dX5_count_46 : decode cX5_count 46 = .ok (.ifCond .eq 7, 3) := by decide +kernel
theorem dX5_count_49 : decode cX5_count 49 = .ok (.iconst 1, 1) := by decide +kernel
theorem dX5_count_50 : decode cX5_count 50 = .ok (.goto 4, 3) := by decide +kernel
theorem dX5_count_53 : decode cX5_count 53 = .ok (.iconst 0, 1) := by decide +kernel
theorem dX5_count_54 : decode cX5_count 54 = .ok (.aload_n 0, 1) := by decide +kernel
theorem dX5_count_55 : decode cX5_count 55 = .ok (.getfield 27, 3) := by decide +kernel
theorem dX5_count_58 : decode cX5_count 58 = .ok (.iconst 1, 1) := by decide +kernel
theorem dX5_count_59 : decode cX5_count 59 = .ok (.baload, 1) := by decide +kernel
theorem dX5_count_60 : decode cX5_count 60 = .ok (.ifCond .eq 7, 3) := by decide +kernel
theorem dX5_count_63 : decode cX5_count 63 = .ok (.iconst 1, 1) := by decide +kernel
theorem dX5_count_64 : decode cX5_count 64 = .ok (.goto 4, 3) := by decide +kernel
theorem dX5_count_67 : decode cX5_count 67 = .ok (.iconst 0, 1) := by decide +kernel
theorem dX5_count_68 : decode cX5_count 68 = .ok (.iadd, 1) := by decide +kernel
theorem dX5_count_69 : decode cX5_count 69 = .ok (.ireturn, 1) := by decide +kernel
theorem dX5_count_70 : decode cX5_count 70 = .ok (.aload_n 0, 1) := by decide +kernel
theorem dX5_count_71 : decode cX5_count 71 = .ok (.getfield 19, 3) := by decide +kernel
theorem dX5_count_74 : decode cX5_count 74 = .ok (.invokevirtual 251, 3) := by decide +kernel
theorem dX5_count_77 : decode cX5_count 77 = .ok (.ireturn, 1) := by decide +kernel
theorem dX5_count_78 : decode cX5_count 78 = .ok (.aload_n 0, 1) := by decide +kernel
theorem dX5_count_79 : decode cX5_count 79 = .ok (.getfield 10, 3) := by decide +kernel
theorem dX5_count_82 : decode cX5_count 82 = .ok (.getfield 56, 3) := by decide +kernel
theorem dX5_count_85 : decode cX5_count 85 = .ok (.ireturn, 1) := by decide +kernel
theorem dX5_count_86 : decode cX5_count 86 = .ok (.aload_n 0, 1) := by decide +kernel
theorem dX5_count_87 : decode cX5_count 87 = .ok (.getfield 33, 3) := by decide +kernel
theorem dX5_count_90 : decode cX5_count 90 = .ok (.iconst 0, 1) := by decide +kernel
theorem dX5_count_91 : decode cX5_count 91 = .ok (.aaload, 1) := by decide +kernel
theorem dX5_count_92 : decode cX5_count 92 = .ok (.invokevirtual 254, 3) := by decide +kernel
theorem dX5_count_95 : decode cX5_count 95 = .ok (.ifCond .eq 8, 3) := by decide +kernel
theorem dX5_count_98 : decode cX5_count 98 = .ok (.bipush (-4), 2) := by decide +kernel
theorem dX5_count_100 : decode cX5_count 100 = .ok (.goto 12, 3) := by decide +kernel
theorem dX5_count_103 : decode cX5_count 103 = .ok (.aload_n 0, 1) := by decide +kernel
theorem dX5_count_104 : decode cX5_count 104 = .ok (.getfield 33, 3) := by decide +kernel
theorem dX5_count_107 : decode cX5_count 107 = .ok (.iconst 0, 1) := by decide +kernel
theorem dX5_count_108 : decode cX5_count 108 = .ok (.aaload, 1) := by decide +kernel
theorem dX5_count_109 : decode cX5_count 109 = .ok (.getfield 258, 3) := by decide +kernel
theorem dX5_count_112 : decode cX5_count 112 = .ok (.ireturn, 1) := by decide +kernel
theorem dX5_count_113 : decode cX5_count 113 = .ok (.aload_n 0, 1) := by decide +kernel
theorem dX5_count_114 : decode cX5_count 114 = .ok (.getfield 19, 3) := by decide +kernel
theorem dX5_count_117 : decode cX5_count 117 = .ok (.iconst 0, 1) := by decide +kernel
theorem dX5_count_118 : decode cX5_count 118 = .ok (.invokevirtual 261, 3) := by decide +kernel
theorem dX5_count_121 : decode cX5_count 121 = .ok (.ireturn, 1) := by decide +kernel
theorem dX5_count_122 : decode cX5_count 122 = .ok (.aload_n 0, 1) := by decide +kernel
theorem dX5_count_123 : decode cX5_count 123 = .ok (.getfield 19, 3) := by decide +kernel
theorem dX5_count_126 : decode cX5_count 126 = .ok (.iconst 1, 1) := by decide +kernel
theorem dX5_count_127 : decode cX5_count 127 = .ok (.invokevirtual 261, 3) := by decide +kernel
theorem dX5_count_130 : decode cX5_count 130 = .ok (.ireturn, 1) := by decide +kernel
theorem dX5_count_131 : decode cX5_count 131 = .ok (.iconst (-1), 1) := by decide +kernel
theorem dX5_count_132 : decode cX5_count 132 = .ok (.ireturn, 1) := by decide +kernel
theorem dX5_maySetFrom_0 : decode cX5_maySetFrom 0 = .ok (.aload_n 0, 1) := by decide +kernel
theorem dX5_maySetFrom_1 : decode cX5_maySetFrom 1 = .ok (.aload_n 1, 1) := by decide +kernel
theorem dX5_maySetFrom_2 : decode cX5_maySetFrom 2 = .ok (.iload_n 2, 1) := by decide +kernel
theorem dX5_maySetFrom_3 : decode cX5_maySetFrom 3 = .ok (.invokevirtual 264, 3) := by decide +kernel
theorem dX5_maySetFrom_6 : decode cX5_maySetFrom 6 = .ok (.aload_n 1, 1) := by decide +kernel
theorem dX5_maySetFrom_7 : decode cX5_maySetFrom 7 = .ok (.iload_n 2, 1) := by decide +kernel
theorem dX5_maySetFrom_8 : decode cX5_maySetFrom 8 = .ok (.iconst 1, 1) := by decide +kernel
theorem dX5_maySetFrom_9 : decode cX5_maySetFrom 9 = .ok (.iadd, 1) := by decide +kernel
theorem dX5_maySetFrom_10 : decode cX5_maySetFrom 10 = .ok (.invokevirtual 264, 3) := by decide +kernel
theorem dX5_maySetFrom_13 : decode cX5_maySetFrom 13 = .ok (.aload_n 1, 1) := by decide +kernel
theorem dX5_maySetFrom_14 : decode cX5_maySetFrom 14 = .ok (.iload_n 2, 1) := by decide +kernel
theorem dX5_maySetFrom_15 : decode cX5_maySetFrom 15 = .ok (.iconst 2, 1) := by decide +kernel
theorem dX5_maySetFrom_16 : decode cX5_maySetFrom 16 = .ok (.iadd, 1) := by decide +kernel
theorem dX5_maySetFrom_17 : decode cX5_maySetFrom 17 = .ok (.invokevirtual 264, 3) := by decide +kernel
theorem dX5_maySetFrom_20 : decode cX5_maySetFrom 20 = .ok (.aload_n 1, 1) := by decide +kernel
theorem dX5_maySetFrom_21 : decode cX5_maySetFrom 21 = .ok (.iload_n 2, 1) := by decide +kernel
theorem dX5_maySetFrom_22 : decode cX5_maySetFrom 22 = .ok (.iconst 3, 1) := by decide +kernel
theorem dX5_maySetFrom_23 : decode cX5_maySetFrom 23 = .ok (.iadd, 1) := by decide +kernel
theorem dX5_maySetFrom_24 : decode cX5_maySetFrom 24 = .ok (.invokevirtual 264, 3) := by decide +kernel
theorem dX5_maySetFrom_27 : decode cX5_maySetFrom 27 = .ok (.invokevirtual 154, 3) := by decide +kernel
theorem dX5_maySetFrom_30 : decode cX5_maySetFrom 30 = .ok (.ireturn, 1) := by decide +kernel
theorem dX5_setFrom_0 : decode cX5_setFrom 0 = .ok (.aload_n 0, 1) := by decide +kernel
theorem dX5_setFrom_1 : decode cX5_setFrom 1 = .ok (.getfield 19, 3) := by decide +kernel
theorem dX5_setFrom_4 : decode cX5_setFrom 4 = .ok (.aload_n 1, 1) := by decide +kernel
theorem dX5_setFrom_5 : decode cX5_setFrom 5 = .ok (.iload_n 2, 1) := by decide +kernel
theorem dX5_setFrom_6 : decode cX5_setFrom 6 = .ok (.invokevirtual 264, 3) := by decide +kernel
theorem dX5_setFrom_9 : decode cX5_setFrom 9 = .ok (.aload_n 1, 1) := by decide +kernel
theorem dX5_setFrom_10 : decode cX5_setFrom 10 = .ok (.iload_n 2, 1) := by decide +kernel
theorem dX5_setFrom_11 : decode cX5_setFrom 11 = .ok (.iconst 1, 1) := by decide +kernel
theorem dX5_setFrom_12 : decode cX5_setFrom 12 = .ok (.iadd, 1) := by decide +kernel
theorem dX5_setFrom_13 : decode cX5_setFrom 13 = .ok (.invokevirtual 264, 3) := by decide +kernel
theorem dX5_setFrom_16 : decode cX5_setFrom 16 = .ok (.aload_n 1, 1) := by decide +kernel
theorem dX5_setFrom_17 : decode cX5_setFrom 17 = .ok (.iload_n 2, 1) := by decide +kernel
theorem dX5_setFrom_18 : decode cX5_setFrom 18 = .ok (.iconst 2, 1) := by decide +kernel
theorem dX5_setFrom_19 : decode cX5_setFrom 19 = .ok (.iadd, 1) := by decide +kernel
theorem dX5_setFrom_20 : decode cX5_setFrom 20 = .ok (.invokevirtual 264, 3) := by decide +kernel
theorem dX5_setFrom_23 : decode cX5_setFrom 23 = .ok (.aload_n 1, 1) := by decide +kernel
theorem dX5_setFrom_24 : decode cX5_setFrom 24 = .ok (.iload_n 2, 1) := by decide +kernel
theorem dX5_setFrom_25 : decode cX5_setFrom 25 = .ok (.iconst 3, 1) := by decide +kernel
theorem dX5_setFrom_26 : decode cX5_setFrom 26 = .ok (.iadd, 1) := by decide +kernel
theorem dX5_setFrom_27 : decode cX5_setFrom 27 = .ok (.invokevirtual 264, 3) := by decide +kernel
theorem dX5_setFrom_30 : decode cX5_setFrom 30 = .ok (.invokevirtual 158, 3) := by decide +kernel
theorem dX5_setFrom_33 : decode cX5_setFrom 33 = .ok (.return_, 1) := by decide +kernel
theorem dX5_isSheet_0 : decode cX5_isSheet 0 = .ok (.iload_n 0, 1) := by decide +kernel
theorem dX5_isSheet_1 : decode cX5_isSheet 1 = .ok (.ifCond .lt 12, 3) := by decide +kernel
theorem dX5_isSheet_4 : decode cX5_isSheet 4 = .ok (.iload_n 0, 1) := by decide +kernel
theorem dX5_isSheet_5 : decode cX5_isSheet 5 = .ok (.iconst 4, 1) := by decide +kernel
theorem dX5_isSheet_6 : decode cX5_isSheet 6 = .ok (.if_icmp .ge 7, 3) := by decide +kernel
theorem dX5_isSheet_9 : decode cX5_isSheet 9 = .ok (.iconst 1, 1) := by decide +kernel
theorem dX5_isSheet_10 : decode cX5_isSheet 10 = .ok (.goto 4, 3) := by decide +kernel
theorem dX5_isSheet_13 : decode cX5_isSheet 13 = .ok (.iconst 0, 1) := by decide +kernel
theorem dX5_isSheet_14 : decode cX5_isSheet 14 = .ok (.ireturn, 1) := by decide +kernel
theorem dX5_isLane_0 : decode cX5_isLane 0 = .ok (.iload_n 0, 1) := by decide +kernel
theorem dX5_isLane_1 : decode cX5_isLane 1 = .ok (.ifCond .lt 12, 3) := by decide +kernel
theorem dX5_isLane_4 : decode cX5_isLane 4 = .ok (.iload_n 0, 1) := by decide +kernel
theorem dX5_isLane_5 : decode cX5_isLane 5 = .ok (.iconst 3, 1) := by decide +kernel
theorem dX5_isLane_6 : decode cX5_isLane 6 = .ok (.if_icmp .ge 7, 3) := by decide +kernel
theorem dX5_isLane_9 : decode cX5_isLane 9 = .ok (.iconst 1, 1) := by decide +kernel
theorem dX5_isLane_10 : decode cX5_isLane 10 = .ok (.goto 4, 3) := by decide +kernel
theorem dX5_isLane_13 : decode cX5_isLane 13 = .ok (.iconst 0, 1) := by decide +kernel
theorem dX5_isLane_14 : decode cX5_isLane 14 = .ok (.ireturn, 1) := by decide +kernel
theorem dX5_reduce_0 : decode cX5_reduce 0 = .ok (.iload_n 1, 1) := by decide +kernel
theorem dX5_reduce_1 : decode cX5_reduce 1 = .ok (.iconst 1, 1) := by decide +kernel
theorem dX5_reduce_2 : decode cX5_reduce 2 = .ok (.if_icmp .ge 5, 3) := by decide +kernel
theorem dX5_reduce_5 : decode cX5_reduce 5 = .ok (.iconst 0, 1) := by decide +kernel
theorem dX5_reduce_6 : decode cX5_reduce 6 = .ok (.ireturn, 1) := by decide +kernel
theorem dX5_reduce_7 : decode cX5_reduce 7 = .ok (.iload_n 0, 1) := by decide +kernel
theorem dX5_reduce_8 : decode cX5_reduce 8 = .ok (.iload_n 1, 1) := by decide +kernel
theorem dX5_reduce_9 : decode cX5_reduce 9 = .ok (.irem, 1) := by decide +kernel
theorem dX5_reduce_10 : decode cX5_reduce 10 = .ok (.istore_n 2, 1) := by decide +kernel
theorem dX5_reduce_11 : decode cX5_reduce 11 = .ok (.iload_n 2, 1) := by decide +kernel
theorem dX5_reduce_12 : decode cX5_reduce 12 = .ok (.ifCond .ge 9, 3) := by decide +kernel
theorem dX5_reduce_15 : decode cX5_reduce 15 = .ok (.iload_n 2, 1) := by decide +kernel
theorem dX5_reduce_16 : decode cX5_reduce 16 = .ok (.iload_n 1, 1) := by decide +kernel
theorem dX5_reduce_17 : decode cX5_reduce 17 = .ok (.iadd, 1) := by decide +kernel
theorem dX5_reduce_18 : decode cX5_reduce 18 = .ok (.goto 4, 3) := by decide +kernel
theorem dX5_reduce_21 : decode cX5_reduce 21 = .ok (.iload_n 2, 1) := by decide +kernel
theorem dX5_reduce_22 : decode cX5_reduce 22 = .ok (.ireturn, 1) := by decide +kernel
end
section
theorem dX6_init_0 : decode cX6_init 0 = .ok (.aload_n 0, 1) := by decide +kernel
theorem dX6_init_1 : decode cX6_init 1 = .ok (.invokespecial 1, 3) := by decide +kernel
theorem dX6_init_4 : decode cX6_init 4 = .ok (.aload_n 0, 1) := by decide +kernel
theorem dX6_init_5 : decode cX6_init 5 = .ok (.bipush 35, 2) := by decide +kernel
theorem dX6_init_7 : decode cX6_init 7 = .ok (.newarray .int, 2) := by decide +kernel
theorem dX6_init_9 : decode cX6_init 9 = .ok (.putfield 7, 3) := by decide +kernel
theorem dX6_init_12 : decode cX6_init 12 = .ok (.aload_n 0, 1) := by decide +kernel
theorem dX6_init_13 : decode cX6_init 13 = .ok (.bipush 70, 2) := by decide +kernel
theorem dX6_init_15 : decode cX6_init 15 = .ok (.newarray .int, 2) := by decide +kernel
theorem dX6_init_17 : decode cX6_init 17 = .ok (.putfield 13, 3) := by decide +kernel
theorem dX6_init_20 : decode cX6_init 20 = .ok (.aload_n 0, 1) := by decide +kernel
theorem dX6_init_21 : decode cX6_init 21 = .ok (.iconst 2, 1) := by decide +kernel
theorem dX6_init_22 : decode cX6_init 22 = .ok (.newarray .boolean, 2) := by decide +kernel
theorem dX6_init_24 : decode cX6_init 24 = .ok (.putfield 16, 3) := by decide +kernel
theorem dX6_init_27 : decode cX6_init 27 = .ok (.aload_n 0, 1) := by decide +kernel
theorem dX6_init_28 : decode cX6_init 28 = .ok (.bipush 35, 2) := by decide +kernel
theorem dX6_init_30 : decode cX6_init 30 = .ok (.newarray .int, 2) := by decide +kernel
theorem dX6_init_32 : decode cX6_init 32 = .ok (.putfield 20, 3) := by decide +kernel
theorem dX6_init_35 : decode cX6_init 35 = .ok (.aload_n 0, 1) := by decide +kernel
theorem dX6_init_36 : decode cX6_init 36 = .ok (.sipush 160, 3) := by decide +kernel
theorem dX6_init_39 : decode cX6_init 39 = .ok (.newarray .int, 2) := by decide +kernel
theorem dX6_init_41 : decode cX6_init 41 = .ok (.putfield 23, 3) := by decide +kernel
theorem dX6_init_44 : decode cX6_init 44 = .ok (.aload_n 0, 1) := by decide +kernel
theorem dX6_init_45 : decode cX6_init 45 = .ok (.sipush 504, 3) := by decide +kernel
theorem dX6_init_48 : decode cX6_init 48 = .ok (.newarray .int, 2) := by decide +kernel
theorem dX6_init_50 : decode cX6_init 50 = .ok (.putfield 26, 3) := by decide +kernel
theorem dX6_init_53 : decode cX6_init 53 = .ok (.aload_n 0, 1) := by decide +kernel
theorem dX6_init_54 : decode cX6_init 54 = .ok (.iconst 5, 1) := by decide +kernel
theorem dX6_init_55 : decode cX6_init 55 = .ok (.newarray .int, 2) := by decide +kernel
theorem dX6_init_57 : decode cX6_init 57 = .ok (.putfield 29, 3) := by decide +kernel
theorem dX6_init_60 : decode cX6_init 60 = .ok (.aload_n 0, 1) := by decide +kernel
theorem dX6_init_61 : decode cX6_init 61 = .ok (.iconst 5, 1) := by decide +kernel
theorem dX6_init_62 : decode cX6_init 62 = .ok (.newarray .int, 2) := by decide +kernel
theorem dX6_init_64 : decode cX6_init 64 = .ok (.putfield 32, 3) := by decide +kernel
theorem dX6_init_67 : decode cX6_init 67 = .ok (.aload_n 0, 1) := by decide +kernel
theorem dX6_init_68 : decode cX6_init 68 = .ok (.iconst 5, 1) := by decide +kernel
theorem dX6_init_69 : decode cX6_init 69 = .ok (.newarray .int, 2) := by decide +kernel
theorem dX6_init_71 : decode cX6_init 71 = .ok (.putfield 35, 3) := by decide +kernel
theorem dX6_init_74 : decode cX6_init 74 = .ok (.aload_n 0, 1) := by decide +kernel
theorem dX6_init_75 : decode cX6_init 75 = .ok (.iconst 4, 1) := by decide +kernel
theorem dX6_init_76 : decode cX6_init 76 = .ok (.newarray .int, 2) := by decide +kernel
theorem dX6_init_78 : decode cX6_init 78 = .ok (.putfield 38, 3) := by decide +kernel
theorem dX6_init_81 : decode cX6_init 81 = .ok (.aload_n 0, 1) := by decide +kernel
theorem dX6_init_82 : decode cX6_init 82 = .ok (.bipush 35, 2) := by decide +kernel
theorem dX6_init_84 : decode cX6_init 84 = .ok (.newarray .int, 2) := by decide +kernel
theorem dX6_init_86 : decode cX6_init 86 = .ok (.putfield 41, 3) := by decide +kernel
theorem dX6_init_89 : decode cX6_init 89 = .ok (.aload_n 0, 1) := by decide +kernel
theorem dX6_init_90 : decode cX6_init 90 = .ok (.bipush 45, 2) := by decide +kernel
theorem dX6_init_92 : decode cX6_init 92 = .ok (.newarray .int, 2) := by decide +kernel
theorem dX6_init_94 : decode cX6_init 94 = .ok (.putfield 44, 3) := by decide +kernel
theorem dX6_init_97 : decode cX6_init 97 = .ok (.aload_n 0, 1) := by decide +kernel
theorem dX6_init_98 : decode cX6_init 98 = .ok (.bipush 45, 2) := by decide +kernel
theorem dX6_init_100 : decode cX6_init 100 = .ok (.newarray .int, 2) := by decide +kernel
theorem dX6_init_102 : decode cX6_init 102 = .ok (.putfield 47, 3) := by decide +kernel
theorem dX6_init_105 : decode cX6_init 105 = .ok (.aload_n 0, 1) := by decide +kernel
theorem dX6_init_106 : decode cX6_init 106 = .ok (.iconst 4, 1) := by decide +kernel
theorem dX6_init_107 : decode cX6_init 107 = .ok (.newarray .int, 2) := by decide +kernel
theorem dX6_init_109 : decode cX6_init 109 = .ok (.putfield 50, 3) := by decide +kernel
theorem dX6_init_112 : decode cX6_init 112 = .ok (.aload_n 0, 1) := by decide +kernel
theorem dX6_init_113 : decode cX6_init 113 = .ok (.iconst 4, 1) := by decide +kernel
theorem dX6_init_114 : decode cX6_init 114 = .ok (.newarray .int, 2) := by decide +kernel
theorem dX6_init_116 : decode cX6_init 116 = .ok (.putfield 53, 3) := by decide +kernel
theorem dX6_init_119 : decode cX6_init 119 = .ok (.aload_n 0, 1) := by decide +kernel
theorem dX6_init_120 : decode cX6_init 120 = .ok (.sipush 160, 3) := by decide +kernel
theorem dX6_init_123 : decode cX6_init 123 = .ok (.newarray .int, 2) := by decide +kernel
theorem dX6_init_125 : decode cX6_init 125 = .ok (.putfield 56, 3) := by decide +kernel
theorem dX6_init_128 : decode cX6_init 128 = .ok (.aload_n 0, 1) := by decide +kernel
theorem dX6_init_129 : decode cX6_init 129 = .ok (.bipush 35, 2) := by decide +kernel
theorem dX6_init_131 : decode cX6_init 131 = .ok (.newarray .int, 2) := by decide +kernel
theorem dX6_init_133 : decode cX6_init 133 = .ok (.putfield 59, 3) := by decide +kernel
theorem dX6_init_136 : decode cX6_init 136 = .ok (.iconst 0, 1) := by decide +kernel
theorem dX6_init_137 : decode cX6_init 137 = .ok (.istore_n 1, 1) := by decide +kernel
theorem dX6_init_138 : decode cX6_init 138 = .ok (.iload_n 1, 1) := by decide +kernel
theorem dX6_init_139 : decode cX6_init 139 = .ok (.iconst 4, 1) := by decide +kernel
theorem dX6_init_140 : decode cX6_init 140 = .ok (.if_icmp .ge 17, 3) := by decide +kernel
theorem dX6_init_143 : decode cX6_init 143 = .ok (.aload_n 0, 1) := by decide +kernel
theorem dX6_init_144 : decode cX6_init 144 = .ok (.getfield 50, 3) := by decide +kernel
theorem dX6_init_147 : decode cX6_init 147 = .ok (.iload_n 1, 1) := by decide +kernel
theorem dX6_init_148 : decode cX6_init 148 = .ok (.bipush (-4), 2) := by decide +kernel
theorem dX6_init_150 : decode cX6_init 150 = .ok (.iastore, 1) := by decide +kernel
theorem dX6_init_151 : decode cX6_init 151 = .ok (.iinc 1 1, 3) := by decide +kernel
theorem dX6_init_154 : decode cX6_init 154 = .ok (.goto (-16), 3) := by decide +kernel
theorem dX6_init_157 : decode cX6_init 157 = .ok (.aload_n 0, 1) := by decide +kernel
theorem dX6_init_158 : decode cX6_init 158 = .ok (.getfield 7, 3) := by decide +kernel
theorem dX6_init_161 : decode cX6_init 161 = .ok (.iconst 0, 1) := by decide +kernel
theorem dX6_init_162 : decode cX6_init 162 = .ok (.bipush 7, 2) := by decide +kernel
theorem dX6_init_164 : decode cX6_init 164 = .ok (.iastore, 1) := by decide +kernel
theorem dX6_init_165 : decode cX6_init 165 = .ok (.return_, 1) := by decide +kernel
theorem dX6_in_0 : decode cX6_in 0 = .ok (.lload_n 0, 1) := by decide +kernel
theorem dX6_in_1 : decode cX6_in 1 = .ok (.lload_n 2, 1) := by decide +kernel
theorem dX6_in_2 : decode cX6_in 2 = .ok (.lcmp, 1) := by decide +kernel
theorem dX6_in_3 : decode cX6_in 3 = .ok (.ifCond .lt 14, 3) := by decide +kernel
theorem dX6_in_6 : decode cX6_in 6 = .ok (.lload_n 0, 1) := by decide +kernel
theorem dX6_in_7 : decode cX6_in 7 = .ok (.lload 4, 2) := by decide +kernel
theorem dX6_in_9 : decode cX6_in 9 = .ok (.lcmp, 1) := by decide +kernel
theorem dX6_in_10 : decode cX6_in 10 = .ok (.ifCond .gt 7, 3) := by decide +kernel
theorem dX6_in_13 : decode cX6_in 13 = .ok (.iconst 1, 1) := by decide +kernel
theorem dX6_in_14 : decode cX6_in 14 = .ok (.goto 4, 3) := by decide +kernel
theorem dX6_in_17 : decode cX6_in 17 = .ok (.iconst 0, 1) := by decide +kernel
theorem dX6_in_18 : decode cX6_in 18 = .ok (.ireturn, 1) := by decide +kernel
theorem dX6_flag_0 : decode cX6_flag 0 = .ok (.iload_n 0, 1) := by decide +kernel
theorem dX6_flag_1 : decode cX6_flag 1 = .ok (.ifCond .eq 7, 3) := by decide +kernel
theorem dX6_flag_4 : decode cX6_flag 4 = .ok (.iconst 1, 1) := by decide +kernel
theorem dX6_flag_5 : decode cX6_flag 5 = .ok (.goto 4, 3) := by decide +kernel
theorem dX6_flag_8 : decode cX6_flag 8 = .ok (.iconst 0, 1) := by decide +kernel
theorem dX6_flag_9 : decode cX6_flag 9 = .ok (.ireturn, 1) := by decide +kernel
theorem dX6_feed_0 : decode cX6_feed 0 = .ok (.iload_n 1, 1) := by decide +kernel
theorem dX6_feed_1 : decode cX6_feed 1 = .ok (.i2l, 1) := by decide +kernel
theorem dX6_feed_2 : decode cX6_feed 2 = .ok (.lconst 0, 1) := by decide +kernel
theorem dX6_feed_3 : decode cX6_feed 3 = .ok (.ldc2_w 62, 3) := by decide +kernel
theorem dX6_feed_6 : decode cX6_feed 6 = .ok (.invokestatic 64, 3) := by decide +kernel
theorem dX6_feed_9 : decode cX6_feed 9 = .ok (.ifCond .ne 5, 3) := by decide +kernel
theorem dX6_feed_12 : decode cX6_feed 12 = .ok (.iconst (-1), 1) := by decide +kernel
theorem dX6_feed_13 : decode cX6_feed 13 = .ok (.ireturn, 1) := by decide +kernel
theorem dX6_feed_14 : decode cX6_feed 14 = .ok (.aload_n 0, 1) := by decide +kernel
theorem dX6_feed_15 : decode cX6_feed 15 = .ok (.getfield 68, 3) := by decide +kernel
theorem dX6_feed_18 : decode cX6_feed 18 = .ok (.sipush 160, 3) := by decide +kernel
theorem dX6_feed_21 : decode cX6_feed 21 = .ok (.if_icmp .ne 6, 3) := by decide +kernel
theorem dX6_feed_24 : decode cX6_feed 24 = .ok (.bipush (-3), 2) := by decide +kernel
theorem dX6_feed_26 : decode cX6_feed 26 = .ok (.ireturn, 1) := by decide +kernel
theorem dX6_feed_27 : decode cX6_feed 27 = .ok (.aload_n 0, 1) := by decide +kernel
theorem dX6_feed_28 : decode cX6_feed 28 = .ok (.getfield 23, 3) := by decide +kernel
theorem dX6_feed_31 : decode cX6_feed 31 = .ok (.aload_n 0, 1) := by decide +kernel
theorem dX6_feed_32 : decode cX6_feed 32 = .ok (.getfield 68, 3) := by decide +kernel
theorem dX6_feed_35 : decode cX6_feed 35 = .ok (.iload_n 1, 1) := by decide +kernel
theorem dX6_feed_36 : decode cX6_feed 36 = .ok (.iastore, 1) := by decide +kernel
theorem dX6_feed_37 : decode cX6_feed 37 = .ok (.aload_n 0, 1) := by decide +kernel
theorem dX6_feed_38 : decode cX6_feed 38 = .ok (.dup, 1) := by decide +kernel
theorem dX6_feed_39 : decode cX6_feed 39 = .ok (.getfield 68, 3) := by decide +kernel
theorem dX6_feed_42 : decode cX6_feed 42 = .ok (.iconst 1, 1) := by decide +kernel
theorem dX6_feed_43 : decode cX6_feed 43 = .ok (.iadd, 1) := by decide +kernel
theorem dX6_feed_44 : decode cX6_feed 44 = .ok (.putfield 68, 3) := by decide +kernel
theorem dX6_feed_47 : decode cX6_feed 47 = .ok (.aload_n 0, 1) := by decide +kernel
theorem dX6_feed_48 : decode cX6_feed 48 = .ok (.getfield 68, 3) := by decide +kernel
theorem dX6_feed_51 : decode cX6_feed 51 = .ok (.ireturn, 1) := by decide +kernel
theorem dX6_end_0 : decode cX6_end 0 = .ok (.iload_n 1, 1) := by decide +kernel
theorem dX6_end_1 : decode cX6_end 1 = .ok (.i2l, 1) := by decide +kernel
theorem dX6_end_2 : decode cX6_end 2 = .ok (.lconst 0, 1) := by decide +kernel
theorem dX6_end_3 : decode cX6_end 3 = .ok (.aload_n 0, 1) := by decide +kernel
theorem dX6_end_4 : decode cX6_end 4 = .ok (.getfield 68, 3) := by decide +kernel
theorem dX6_end_7 : decode cX6_end 7 = .ok (.i2l, 1) := by decide +kernel
theorem dX6_end_8 : decode cX6_end 8 = .ok (.invokestatic 64, 3) := by decide +kernel
theorem dX6_end_11 : decode cX6_end 11 = .ok (.ifCond .ne 5, 3) := by decide +kernel
theorem dX6_end_14 : decode cX6_end 14 = .ok (.iconst (-1), 1) := by decide +kernel
theorem dX6_end_15 : decode cX6_end 15 = .ok (.ireturn, 1) := by decide +kernel
theorem dX6_end_16 : decode cX6_end 16 = .ok (.aload_n 0, 1) := by decide +kernel
theorem dX6_end_17 : decode cX6_end 17 = .ok (.getfield 68, 3) := by decide +kernel
theorem dX6_end_20 : decode cX6_end 20 = .ok (.istore_n 2, 1) := by decide +kernel
theorem dX6_end_21 : decode cX6_end 21 = .ok (.aload_n 0, 1) := by decide +kernel
theorem dX6_end_22 : decode cX6_end 22 = .ok (.iload_n 1, 1) := by decide +kernel
theorem dX6_end_23 : decode cX6_end 23 = .ok (.putfield 68, 3) := by decide +kernel
theorem dX6_end_26 : decode cX6_end 26 = .ok (.iload_n 2, 1) := by decide +kernel
theorem dX6_end_27 : decode cX6_end 27 = .ok (.ireturn, 1) := by decide +kernel
theorem dX6_requires_0 : decode cX6_requires 0 = .ok (.iload_n 1, 1) := by decide +kernel
theorem dX6_requires_1 : decode cX6_requires 1 = .ok (.ifCond .ne 23, 3) := by decide +kernel
theorem dX6_requires_4 : decode cX6_requires 4 = .ok (.aload_n 0, 1) := by decide +kernel
theorem dX6_requires_5 : decode cX6_requires 5 = .ok (.getfield 72, 3) := by decide +kernel
theorem dX6_requires_8 : decode cX6_requires 8 = .ok (.ifCond .ne 16, 3) := by decide +kernel
theorem dX6_requires_11 : decode cX6_requires 11 = .ok (.aload_n 0, 1) := by decide +kernel
theorem dX6_requires_12 : decode cX6_requires 12 = .ok (.iload_n 2, 1) := by decide +kernel
theorem dX6_requires_13 : decode cX6_requires 13 = .ok (.putfield 72, 3) := by decide +kernel
theorem dX6_requires_16 : decode cX6_requires 16 = .ok (.aload_n 0, 1) := by decide +kernel
theorem dX6_requires_17 : decode cX6_requires 17 = .ok (.aload_n 0, 1) := by decide +kernel
theorem dX6_requires_18 : decode cX6_requires 18 = .ok (.getfield 75, 3) := by decide +kernel
theorem dX6_requires_21 : decode cX6_requires 21 = .ok (.putfield 78, 3) := by decide +kernel
theorem dX6_requires_24 : decode cX6_requires 24 = .ok (.return_, 1) := by decide +kernel
theorem dX6_byteAt_0 : decode cX6_byteAt 0 = .ok (.iload_n 1, 1) := by decide +kernel
theorem dX6_byteAt_1 : decode cX6_byteAt 1 = .ok (.aload_n 0, 1) := by decide +kernel
theorem dX6_byteAt_2 : decode cX6_byteAt 2 = .ok (.getfield 68, 3) := by decide +kernel
theorem dX6_byteAt_5 : decode cX6_byteAt 5 = .ok (.if_icmp .ge 12, 3) := by decide +kernel
theorem dX6_byteAt_8 : decode cX6_byteAt 8 = .ok (.aload_n 0, 1) := by decide +kernel
theorem dX6_byteAt_9 : decode cX6_byteAt 9 = .ok (.getfield 23, 3) := by decide +kernel
theorem dX6_byteAt_12 : decode cX6_byteAt 12 = .ok (.iload_n 1, 1) := by decide +kernel
theorem dX6_byteAt_13 : decode cX6_byteAt 13 = .ok (.iaload, 1) := by decide +kernel
theorem dX6_byteAt_14 : decode cX6_byteAt 14 = .ok (.goto 4, 3) := by decide +kernel
theorem dX6_byteAt_17 : decode cX6_byteAt 17 = .ok (.iconst (-1), 1) := by decide +kernel
theorem dX6_byteAt_18 : decode cX6_byteAt 18 = .ok (.ireturn, 1) := by decide +kernel
theorem dX6_is_0 : decode cX6_is 0 = .ok (.aload_n 0, 1) := by decide +kernel
theorem dX6_is_1 : decode cX6_is 1 = .ok (.getfield 81, 3) := by decide +kernel
theorem dX6_is_4 : decode cX6_is 4 = .ok (.aload_n 0, 1) := by decide +kernel
theorem dX6_is_5 : decode cX6_is 5 = .ok (.getfield 75, 3) := by decide +kernel
theorem dX6_is_8 : decode cX6_is 8 = .ok (.isub, 1) := by decide +kernel
theorem dX6_is_9 : decode cX6_is 9 = .ok (.iload_n 1, 1) := by decide +kernel
theorem dX6_is_10 : decode cX6_is 10 = .ok (.if_icmp .ne 53, 3) := by decide +kernel
theorem dX6_is_13 : decode cX6_is 13 = .ok (.aload_n 0, 1) := by decide +kernel
theorem dX6_is_14 : decode cX6_is 14 = .ok (.aload_n 0, 1) := by decide +kernel
theorem dX6_is_15 : decode cX6_is 15 = .ok (.getfield 75, 3) := by decide +kernel
theorem dX6_is_18 : decode cX6_is 18 = .ok (.invokevirtual 84, 3) := by decide +kernel
theorem dX6_is_21 : decode cX6_is 21 = .ok (.iload_n 2, 1) := by decide +kernel
theorem dX6_is_22 : decode cX6_is 22 = .ok (.if_icmp .ne 41, 3) := by decide +kernel
theorem dX6_is_25 : decode cX6_is 25 = .ok (.aload_n 0, 1) := by decide +kernel
theorem dX6_is_26 : decode cX6_is 26 = .ok (.aload_n 0, 1) := by decide +kernel
theorem dX6_is_27 : decode cX6_is 27 = .ok (.getfield 75, 3) := by decide +kernel
theorem dX6_is_30 : decode cX6_is 30 = .ok (.iconst 1, 1) := by decide +kernel
theorem dX6_is_31 : decode cX6_is 31 = .ok (.iadd, 1) := by decide +kernel
theorem dX6_is_32 : decode cX6_is 32 = .ok (.invokevirtual 84, 3) := by decide +kernel
theorem dX6_is_35 : decode cX6_is 35 = .ok (.iload_n 3, 1) := by decide +kernel
theorem dX6_is_36 : decode cX6_is 36 = .ok (.if_icmp .ne 27, 3) := by decide +kernel
theorem dX6_is_39 : decode cX6_is 39 = .ok (.iload_n 1, 1) := by decide +kernel
theorem dX6_is_40 : decode cX6_is 40 = .ok (.iconst 2, 1) := by decide +kernel
theorem dX6_is_41 : decode cX6_is 41 = .ok (.if_icmp .eq 18, 3) := by decide +kernel
theorem dX6_is_44 : decode cX6_is 44 = .ok (.aload_n 0, 1) := by decide +kernel
theorem dX6_is_45 : decode cX6_is 45 = .ok (.aload_n 0, 1) := by decide +kernel
theorem dX6_is_46 : decode cX6_is 46 = .ok (.getfield 75, 3) := by decide +kernel
theorem dX6_is_49 : decode cX6_is 49 = .ok (.iconst 2, 1) := by decide +kernel
theorem dX6_is_50 : decode cX6_is 50 = .ok (.iadd, 1) := by decide +kernel
theorem dX6_is_51 : decode cX6_is 51 = .ok (.invokevirtual 84, 3) := by decide +kernel
theorem dX6_is_54 : decode cX6_is 54 = .ok (.iload 4, 2) := by decide +kernel
theorem dX6_is_56 : decode cX6_is 56 = .ok (.if_icmp .ne 7, 3) := by decide +kernel
theorem dX6_is_59 : decode cX6_is 59 = .ok (.iconst 1, 1) := by decide +kernel
theorem dX6_is_60 : decode cX6_is 60 = .ok (.goto 4, 3) := by decide +kernel
theorem dX6_is_63 : decode cX6_is 63 = .ok (.iconst 0, 1) := by decide +kernel
theorem dX6_is_64 : decode cX6_is 64 = .ok (.ireturn, 1) := by decide +kernel
theorem dX6_lineNow_0 : decode cX6_lineNow 0 = .ok (.aload_n 0, 1) := by decide +kernel
theorem dX6_lineNow_1 : decode cX6_lineNow 1 = .ok (.iconst 5, 1) := by decide +kernel
theorem dX6_lineNow_2 : decode cX6_lineNow 2 = .ok (.bipush 112, 2) := by decide +kernel
theorem dX6_lineNow_4 : decode cX6_lineNow 4 = .ok (.bipush 114, 2) := by decide +kernel
theorem dX6_lineNow_6 : decode cX6_lineNow 6 = .ok (.bipush 105, 2) := by decide +kernel
theorem dX6_lineNow_8 : decode cX6_lineNow 8 = .ok (.invokevirtual 88, 3) := by decide +kernel
theorem dX6_lineNow_11 : decode cX6_lineNow 11 = .ok (.ifCond .eq 35, 3) := by decide +kernel
theorem dX6_lineNow_14 : decode cX6_lineNow 14 = .ok (.aload_n 0, 1) := by decide +kernel
theorem dX6_lineNow_15 : decode cX6_lineNow 15 = .ok (.aload_n 0, 1) := by decide +kernel
theorem dX6_lineNow_16 : decode cX6_lineNow 16 = .ok (.getfield 75, 3) := by decide +kernel
theorem dX6_lineNow_19 : decode cX6_lineNow 19 = .ok (.iconst 3, 1) := by decide +kernel
theorem dX6_lineNow_20 : decode cX6_lineNow 20 = .ok (.iadd, 1) := by decide +kernel
theorem dX6_lineNow_21 : decode cX6_lineNow 21 = .ok (.invokevirtual 84, 3) := by decide +kernel
theorem dX6_lineNow_24 : decode cX6_lineNow 24 = .ok (.bipush 109, 2) := by decide +kernel
theorem dX6_lineNow_26 : decode cX6_lineNow 26 = .ok (.if_icmp .ne 20, 3) := by decide +kernel
theorem dX6_lineNow_29 : decode cX6_lineNow 29 = .ok (.aload_n 0, 1) := by decide +kernel
theorem dX6_lineNow_30 : decode cX6_lineNow 30 = .ok (.aload_n 0, 1) := by decide +kernel
theorem dX6_lineNow_31 : decode cX6_lineNow 31 = .ok (.getfield 75, 3) := by decide +kernel
theorem dX6_lineNow_34 : decode cX6_lineNow 34 = .ok (.iconst 4, 1) := by decide +kernel
theorem dX6_lineNow_35 : decode cX6_lineNow 35 = .ok (.iadd, 1) := by decide +kernel
theorem dX6_lineNow_36 : decode cX6_lineNow 36 = .ok (.invokevirtual 84, 3) := by decide +kernel
theorem dX6_lineNow_39 : decode cX6_lineNow 39 = .ok (.bipush 101, 2) := by decide +kernel
theorem dX6_lineNow_41 : decode cX6_lineNow 41 = .ok (.if_icmp .ne 5, 3) := by decide +kernel
theorem dX6_lineNow_44 : decode cX6_lineNow 44 = .ok (.iconst 0, 1) := by decide +kernel
theorem dX6_lineNow_45 : decode cX6_lineNow 45 = .ok (.ireturn, 1) := by decide +kernel
theorem dX6_lineNow_46 : decode cX6_lineNow 46 = .ok (.aload_n 0, 1) := by decide +kernel
theorem dX6_lineNow_47 : decode cX6_lineNow 47 = .ok (.iconst 3, 1) := by decide +kernel
theorem dX6_lineNow_48 : decode cX6_lineNow 48 = .ok (.bipush 99, 2) := by decide +kernel
theorem dX6_lineNow_50 : decode cX6_lineNow 50 = .ok (.bipush 111, 2) := by decide +kernel
theorem dX6_lineNow_52 : decode cX6_lineNow 52 = .ok (.bipush 108, 2) := by decide +kernel
theorem dX6_lineNow_54 : decode cX6_lineNow 54 = .ok (.invokevirtual 88, 3) := by decide +kernel
theorem dX6_lineNow_57 : decode cX6_lineNow 57 = .ok (.ifCond .eq 5, 3) := by decide +kernel
theorem dX6_lineNow_60 : decode cX6_lineNow 60 = .ok (.iconst 1, 1) := by decide +kernel
theorem dX6_lineNow_61 : decode cX6_lineNow 61 = .ok (.ireturn, 1) := by decide +kernel
theorem dX6_lineNow_62 : decode cX6_lineNow 62 = .ok (.aload_n 0, 1) := by decide +kernel
theorem dX6_lineNow_63 : decode cX6_lineNow 63 = .ok (.iconst 3, 1) := by decide +kernel
theorem dX6_lineNow_64 : decode cX6_lineNow 64 = .ok (.bipush 114, 2) := by decide +kernel
theorem dX6_lineNow_66 : decode cX6_lineNow 66 = .ok (.bipush 111, 2) := by decide +kernel
theorem dX6_lineNow_68 : decode cX6_lineNow 68 = .ok (.bipush 119, 2) := by decide +kernel
theorem dX6_lineNow_70 : decode cX6_lineNow 70 = .ok (.invokevirtual 88, 3) := by decide +kernel
theorem dX6_lineNow_73 : decode cX6_lineNow 73 = .ok (.ifCond .eq 5, 3) := by decide +kernel
theorem dX6_lineNow_76 : decode cX6_lineNow 76 = .ok (.iconst 2, 1) := by decide +kernel
theorem dX6_lineNow_77 : decode cX6_lineNow 77 = .ok (.ireturn, 1) := by decide +kernel
theorem dX6_lineNow_78 : decode cX6_lineNow 78 = .ok (.aload_n 0, 1) := by decide +kernel
theorem dX6_lineNow_79 : decode cX6_lineNow 79 = .ok (.iconst 3, 1) := by decide +kernel
theorem dX6_lineNow_80 : decode cX6_lineNow 80 = .ok (.bipush 105, 2) := by decide +kernel
theorem dX6_lineNow_82 : decode cX6_lineNow 82 = .ok (.bipush 110, 2) := by decide +kernel
theorem dX6_lineNow_84 : decode cX6_lineNow 84 = .ok (.bipush 102, 2) := by decide +kernel
theorem dX6_lineNow_86 : decode cX6_lineNow 86 = .ok (.invokevirtual 88, 3) := by decide +kernel
theorem dX6_lineNow_89 : decode cX6_lineNow 89 = .ok (.ifCond .eq 7, 3) := by decide +kernel
theorem dX6_lineNow_92 : decode cX6_lineNow 92 = .ok (.iconst 3, 1) := by decide +kernel
theorem dX6_lineNow_93 : decode cX6_lineNow 93 = .ok (.goto 22, 3) := by decide +kernel
theorem dX6_lineNow_96 : decode cX6_lineNow 96 = .ok (.aload_n 0, 1) := by decide +kernel
theorem dX6_lineNow_97 : decode cX6_lineNow 97 = .ok (.iconst 2, 1) := by decide +kernel
theorem dX6_lineNow_98 : decode cX6_lineNow 98 = .ok (.bipush 97, 2) := by decide +kernel
theorem dX6_lineNow_100 : decode cX6_lineNow 100 = .ok (.bipush 116, 2) := by decide +kernel
theorem dX6_lineNow_102 : decode cX6_lineNow 102 = .ok (.iconst 0, 1) := by decide +kernel
theorem dX6_lineNow_103 : decode cX6_lineNow 103 = .ok (.invokevirtual 88, 3) := by decide +kernel
theorem dX6_lineNow_106 : decode cX6_lineNow 106 = .ok (.ifCond .eq 7, 3) := by decide +kernel
theorem dX6_lineNow_109 : decode cX6_lineNow 109 = .ok (.iconst 4, 1) := by decide +kernel
theorem dX6_lineNow_110 : decode cX6_lineNow 110 = .ok (.goto 5, 3) := by decide +kernel
theorem dX6_lineNow_113 : decode cX6_lineNow 113 = .ok (.bipush (-4), 2) := by decide +kernel
theorem dX6_lineNow_115 : decode cX6_lineNow 115 = .ok (.ireturn, 1) := by decide +kernel
theorem dX6_reads_0 : decode cX6_reads 0 = .ok (.aload_n 0, 1) := by decide +kernel
theorem dX6_reads_1 : decode cX6_reads 1 = .ok (.getfield 72, 3) := by decide +kernel
theorem dX6_reads_4 : decode cX6_reads 4 = .ok (.ifCond .le 4, 3) := by decide +kernel
theorem dX6_reads_7 : decode cX6_reads 7 = .ok (.return_, 1) := by decide +kernel
theorem dX6_reads_8 : decode cX6_reads 8 = .ok (.aload_n 0, 1) := by decide +kernel
theorem dX6_reads_9 : decode cX6_reads 9 = .ok (.aload_n 0, 1) := by decide +kernel
theorem dX6_reads_10 : decode cX6_reads 10 = .ok (.getfield 81, 3) := by decide +kernel
theorem dX6_reads_13 : decode cX6_reads 13 = .ok (.invokevirtual 84, 3) := by decide +kernel
theorem dX6_reads_16 : decode cX6_reads 16 = .ok (.bipush 32, 2) := by decide +kernel
theorem dX6_reads_18 : decode cX6_reads 18 = .ok (.if_icmp .ne 16, 3) := by decide +kernel
theorem dX6_reads_21 : decode cX6_reads 21 = .ok (.aload_n 0, 1) := by decide +kernel
theorem dX6_reads_22 : decode cX6_reads 22 = .ok (.dup, 1) := by decide +kernel
theorem dX6_reads_23 : decode cX6_reads 23 = .ok (.getfield 81, 3) := by decide +kernel
theorem dX6_reads_26 : decode cX6_reads 26 = .ok (.iconst 1, 1) := by decide +kernel
theorem dX6_reads_27 : decode cX6_reads 27 = .ok (.iadd, 1) := by decide +kernel
theorem dX6_reads_28 : decode cX6_reads 28 = .ok (.putfield 81, 3) := by decide +kernel
theorem dX6_reads_31 : decode cX6_reads 31 = .ok (.goto (-23), 3) := by decide +kernel
theorem dX6_reads_34 : decode cX6_reads 34 = .ok (.aload_n 0, 1) := by decide +kernel
theorem dX6_reads_35 : decode cX6_reads 35 = .ok (.aload_n 0, 1) := by decide +kernel
theorem dX6_reads_36 : decode cX6_reads 36 = .ok (.getfield 81, 3) := by decide +kernel
theorem dX6_reads_39 : decode cX6_reads 39 = .ok (.putfield 75, 3) := by decide +kernel
theorem dX6_reads_42 : decode cX6_reads 42 = .ok (.aload_n 0, 1) := by decide +kernel
theorem dX6_reads_43 : decode cX6_reads 43 = .ok (.aload_n 0, 1) := by decide +kernel
theorem dX6_reads_44 : decode cX6_reads 44 = .ok (.getfield 81, 3) := by decide +kernel
theorem dX6_reads_47 : decode cX6_reads 47 = .ok (.invokevirtual 84, 3) := by decide +kernel
theorem dX6_reads_50 : decode cX6_reads 50 = .ok (.istore_n 1, 1) := by decide +kernel
theorem dX6_reads_51 : decode cX6_reads 51 = .ok (.iload_n 1, 1) := by decide +kernel
theorem dX6_reads_52 : decode cX6_reads 52 = .ok (.ifCond .ge 11, 3) := by decide +kernel
theorem dX6_reads_55 : decode cX6_reads 55 = .ok (.aload_n 0, 1) := by decide +kernel
theorem dX6_reads_56 : decode cX6_reads 56 = .ok (.iconst 0, 1) := by decide +kernel
theorem dX6_reads_57 : decode cX6_reads 57 = .ok (.putfield 92, 3) := by decide +kernel
theorem dX6_reads_60 : decode cX6_reads 60 = .ok (.goto 214, 3) := by decide +kernel
theorem dX6_reads_63 : decode cX6_reads 63 = .ok (.iload_n 1, 1) := by decide +kernel
theorem dX6_reads_64 : decode cX6_reads 64 = .ok (.i2l, 1) := by decide +kernel
theorem dX6_reads_65 : decode cX6_reads 65 = .ok (.ldc2_w 95, 3) := by decide +kernel
theorem dX6_reads_68 : decode cX6_reads 68 = .ok (.ldc2_w 97, 3) := by decide +kernel
theorem dX6_reads_71 : decode cX6_reads 71 = .ok (.invokestatic 64, 3) := by decide +kernel
theorem dX6_reads_74 : decode cX6_reads 74 = .ok (.ifCond .eq 42, 3) := by decide +kernel
theorem dX6_reads_77 : decode cX6_reads 77 = .ok (.aload_n 0, 1) := by decide +kernel
theorem dX6_reads_78 : decode cX6_reads 78 = .ok (.iconst 1, 1) := by decide +kernel
theorem dX6_reads_79 : decode cX6_reads 79 = .ok (.putfield 92, 3) := by decide +kernel
theorem dX6_reads_82 : decode cX6_reads 82 = .ok (.aload_n 0, 1) := by decide +kernel
theorem dX6_reads_83 : decode cX6_reads 83 = .ok (.aload_n 0, 1) := by decide +kernel
theorem dX6_reads_84 : decode cX6_reads 84 = .ok (.getfield 81, 3) := by decide +kernel
theorem dX6_reads_87 : decode cX6_reads 87 = .ok (.invokevirtual 84, 3) := by decide +kernel
theorem dX6_reads_90 : decode cX6_reads 90 = .ok (.i2l, 1) := by decide +kernel
theorem dX6_reads_91 : decode cX6_reads 91 = .ok (.ldc2_w 95, 3) := by decide +kernel
theorem dX6_reads_94 : decode cX6_reads 94 = .ok (.ldc2_w 97, 3) := by decide +kernel
theorem dX6_reads_97 : decode cX6_reads 97 = .ok (.invokestatic 64, 3) := by decide +kernel
theorem dX6_reads_100 : decode cX6_reads 100 = .ok (.ifCond .eq 174, 3) := by decide +kernel
theorem dX6_reads_103 : decode cX6_reads 103 = .ok (.aload_n 0, 1) := by decide +kernel
theorem dX6_reads_104 : decode cX6_reads 104 = .ok (.dup, 1) := by decide +kernel
theorem dX6_reads_105 : decode cX6_reads 105 = .ok (.getfield 81, 3) := by decide +kernel
theorem dX6_reads_108 : decode cX6_reads 108 = .ok (.iconst 1, 1) := by decide +kernel
theorem dX6_reads_109 : decode cX6_reads 109 = .ok (.iadd, 1) := by decide +kernel
theorem dX6_reads_110 : decode cX6_reads 110 = .ok (.putfield 81, 3) := by decide +kernel
theorem dX6_reads_113 : decode cX6_reads 113 = .ok (.goto (-31), 3) := by decide +kernel
theorem dX6_reads_116 : decode cX6_reads 116 = .ok (.iload_n 1, 1) := by decide +kernel
theorem dX6_reads_117 : decode cX6_reads 117 = .ok (.i2l, 1) := by decide +kernel
theorem dX6_reads_118 : decode cX6_reads 118 = .ok (.ldc2_w 99, 3) := by decide +kernel
theorem dX6_reads_121 : decode cX6_reads 121 = .ok (.ldc2_w 101, 3) := by decide +kernel
theorem dX6_reads_124 : decode cX6_reads 124 = .ok (.invokestatic 64, 3) := by decide +kernel
theorem dX6_reads_127 : decode cX6_reads 127 = .ok (.ifCond .eq 116, 3) := by decide +kernel
theorem dX6_reads_130 : decode cX6_reads 130 = .ok (.aload_n 0, 1) := by decide +kernel
theorem dX6_reads_131 : decode cX6_reads 131 = .ok (.iconst 2, 1) := by decide +kernel
theorem dX6_reads_132 : decode cX6_reads 132 = .ok (.putfield 92, 3) := by decide +kernel
theorem dX6_reads_135 : decode cX6_reads 135 = .ok (.aload_n 0, 1) := by decide +kernel
theorem dX6_reads_136 : decode cX6_reads 136 = .ok (.iconst 0, 1) := by decide +kernel
theorem dX6_reads_137 : decode cX6_reads 137 = .ok (.putfield 103, 3) := by decide +kernel
theorem dX6_reads_140 : decode cX6_reads 140 = .ok (.aload_n 0, 1) := by decide +kernel
theorem dX6_reads_141 : decode cX6_reads 141 = .ok (.aload_n 0, 1) := by decide +kernel
theorem dX6_reads_142 : decode cX6_reads 142 = .ok (.getfield 81, 3) := by decide +kernel
theorem dX6_reads_145 : decode cX6_reads 145 = .ok (.invokevirtual 84, 3) := by decide +kernel
theorem dX6_reads_148 : decode cX6_reads 148 = .ok (.i2l, 1) := by decide +kernel
theorem dX6_reads_149 : decode cX6_reads 149 = .ok (.ldc2_w 99, 3) := by decide +kernel
theorem dX6_reads_152 : decode cX6_reads 152 = .ok (.ldc2_w 101, 3) := by decide +kernel
theorem dX6_reads_155 : decode cX6_reads 155 = .ok (.invokestatic 64, 3) := by decide +kernel
theorem dX6_reads_158 : decode cX6_reads 158 = .ok (.ifCond .eq 59, 3) := by decide +kernel
theorem dX6_reads_161 : decode cX6_reads 161 = .ok (.aload_n 0, 1) := by decide +kernel
theorem dX6_reads_162 : decode cX6_reads 162 = .ok (.aload_n 0, 1) := by decide +kernel
theorem dX6_reads_163 : decode cX6_reads 163 = .ok (.getfield 81, 3) := by decide +kernel
theorem dX6_reads_166 : decode cX6_reads 166 = .ok (.aload_n 0, 1) := by decide +kernel
theorem dX6_reads_167 : decode cX6_reads 167 = .ok (.getfield 75, 3) := by decide +kernel
theorem dX6_reads_170 : decode cX6_reads 170 = .ok (.isub, 1) := by decide +kernel
theorem dX6_reads_171 : decode cX6_reads 171 = .ok (.iconst 2, 1) := by decide +kernel
theorem dX6_reads_172 : decode cX6_reads 172 = .ok (.if_icmp .ge 25, 3) := by decide +kernel
theorem dX6_reads_175 : decode cX6_reads 175 = .ok (.bipush 10, 2) := by decide +kernel
theorem dX6_reads_177 : decode cX6_reads 177 = .ok (.aload_n 0, 1) := by decide +kernel
theorem dX6_reads_178 : decode cX6_reads 178 = .ok (.getfield 103, 3) := by decide +kernel
theorem dX6_reads_181 : decode cX6_reads 181 = .ok (.imul, 1) := by decide +kernel
theorem dX6_reads_182 : decode cX6_reads 182 = .ok (.aload_n 0, 1) := by decide +kernel
theorem dX6_reads_183 : decode cX6_reads 183 = .ok (.aload_n 0, 1) := by decide +kernel
theorem dX6_reads_184 : decode cX6_reads 184 = .ok (.getfield 81, 3) := by decide +kernel
theorem dX6_reads_187 : decode cX6_reads 187 = .ok (.invokevirtual 84, 3) := by decide +kernel
theorem dX6_reads_190 : decode cX6_reads 190 = .ok (.iadd, 1) := by decide +kernel
theorem dX6_reads_191 : decode cX6_reads 191 = .ok (.bipush 48, 2) := by decide +kernel
theorem dX6_reads_193 : decode cX6_reads 193 = .ok (.isub, 1) := by decide +kernel
theorem dX6_reads_194 : decode cX6_reads 194 = .ok (.goto 7, 3) := by decide +kernel
theorem dX6_reads_197 : decode cX6_reads 197 = .ok (.aload_n 0, 1) := by decide +kernel
theorem dX6_reads_198 : decode cX6_reads 198 = .ok (.getfield 103, 3) := by decide +kernel
theorem dX6_reads_201 : decode cX6_reads 201 = .ok (.putfield 103, 3) := by decide +kernel
theorem dX6_reads_204 : decode cX6_reads 204 = .ok (.aload_n 0, 1) := by decide +kernel
theorem dX6_reads_205 : decode cX6_reads 205 = .ok (.dup, 1) := by decide +kernel
theorem dX6_reads_206 : decode cX6_reads 206 = .ok (.getfield 81, 3) := by decide +kernel
theorem dX6_reads_209 : decode cX6_reads 209 = .ok (.iconst 1, 1) := by decide +kernel
theorem dX6_reads_210 : decode cX6_reads 210 = .ok (.iadd, 1) := by decide +kernel
theorem dX6_reads_211 : decode cX6_reads 211 = .ok (.putfield 81, 3) := by decide +kernel
theorem dX6_reads_214 : decode cX6_reads 214 = .ok (.goto (-74), 3) := by decide +kernel
theorem dX6_reads_217 : decode cX6_reads 217 = .ok (.aload_n 0, 1) := by decide +kernel
theorem dX6_reads_218 : decode cX6_reads 218 = .ok (.aload_n 0, 1) := by decide +kernel
theorem dX6_reads_219 : decode cX6_reads 219 = .ok (.getfield 81, 3) := by decide +kernel
theorem dX6_reads_222 : decode cX6_reads 222 = .ok (.aload_n 0, 1) := by decide +kernel
theorem dX6_reads_223 : decode cX6_reads 223 = .ok (.getfield 75, 3) := by decide +kernel
theorem dX6_reads_226 : decode cX6_reads 226 = .ok (.isub, 1) := by decide +kernel
theorem dX6_reads_227 : decode cX6_reads 227 = .ok (.iconst 2, 1) := by decide +kernel
theorem dX6_reads_228 : decode cX6_reads 228 = .ok (.if_icmp .gt 7, 3) := by decide +kernel
theorem dX6_reads_231 : decode cX6_reads 231 = .ok (.iconst 1, 1) := by decide +kernel
theorem dX6_reads_232 : decode cX6_reads 232 = .ok (.goto 4, 3) := by decide +kernel
theorem dX6_reads_235 : decode cX6_reads 235 = .ok (.iconst 0, 1) := by decide +kernel
theorem dX6_reads_236 : decode cX6_reads 236 = .ok (.iconst 1, 1) := by decide +kernel
theorem dX6_reads_237 : decode cX6_reads 237 = .ok (.invokevirtual 106, 3) := by decide +kernel
theorem dX6_reads_240 : decode cX6_reads 240 = .ok (.goto 34, 3) := by decide +kernel
theorem dX6_reads_243 : decode cX6_reads 243 = .ok (.aload_n 0, 1) := by decide +kernel
theorem dX6_reads_244 : decode cX6_reads 244 = .ok (.iconst 3, 1) := by decide +kernel
theorem dX6_reads_245 : decode cX6_reads 245 = .ok (.putfield 92, 3) := by decide +kernel
theorem dX6_reads_248 : decode cX6_reads 248 = .ok (.aload_n 0, 1) := by decide +kernel
theorem dX6_reads_249 : decode cX6_reads 249 = .ok (.iload_n 1, 1) := by decide +kernel
theorem dX6_reads_250 : decode cX6_reads 250 = .ok (.bipush 59, 2) := by decide +kernel
theorem dX6_reads_252 : decode cX6_reads 252 = .ok (.if_icmp .ne 7, 3) := by decide +kernel
theorem dX6_reads_255 : decode cX6_reads 255 = .ok (.iconst 1, 1) := by decide +kernel
theorem dX6_reads_256 : decode cX6_reads 256 = .ok (.goto 4, 3) := by decide +kernel
theorem dX6_reads_259 : decode cX6_reads 259 = .ok (.iconst 0, 1) := by decide +kernel
theorem dX6_reads_260 : decode cX6_reads 260 = .ok (.iconst 1, 1) := by decide +kernel
theorem dX6_reads_261 : decode cX6_reads 261 = .ok (.invokevirtual 106, 3) := by decide +kernel
theorem dX6_reads_264 : decode cX6_reads 264 = .ok (.aload_n 0, 1) := by decide +kernel
theorem dX6_reads_265 : decode cX6_reads 265 = .ok (.dup, 1) := by decide +kernel
theorem dX6_reads_266 : decode cX6_reads 266 = .ok (.getfield 81, 3) := by decide +kernel
theorem dX6_reads_269 : decode cX6_reads 269 = .ok (.iconst 1, 1) := by decide +kernel
theorem dX6_reads_270 : decode cX6_reads 270 = .ok (.iadd, 1) := by decide +kernel
theorem dX6_reads_271 : decode cX6_reads 271 = .ok (.putfield 81, 3) := by decide +kernel
theorem dX6_reads_274 : decode cX6_reads 274 = .ok (.return_, 1) := by decide +kernel
theorem dX6_isPrime_0 : decode cX6_isPrime 0 = .ok (.iload_n 0, 1) := by decide +kernel
theorem dX6_isPrime_1 : decode cX6_isPrime 1 = .ok (.iconst 2, 1) := by decide +kernel
theorem dX6_isPrime_2 : decode cX6_isPrime 2 = .ok (.if_icmp .eq 19, 3) := by decide +kernel
theorem dX6_isPrime_5 : decode cX6_isPrime 5 = .ok (.iload_n 0, 1) := by decide +kernel
theorem dX6_isPrime_6 : decode cX6_isPrime 6 = .ok (.iconst 3, 1) := by decide +kernel
theorem dX6_isPrime_7 : decode cX6_isPrime 7 = .ok (.if_icmp .eq 14, 3) := by decide +kernel
theorem dX6_isPrime_10 : decode cX6_isPrime 10 = .ok (.iload_n 0, 1) := by decide +kernel
theorem dX6_isPrime_11 : decode cX6_isPrime 11 = .ok (.iconst 5, 1) := by decide +kernel
theorem dX6_isPrime_12 : decode cX6_isPrime 12 = .ok (.if_icmp .eq 9, 3) := by decide +kernel
theorem dX6_isPrime_15 : decode cX6_isPrime 15 = .ok (.iload_n 0, 1) := by decide +kernel
theorem dX6_isPrime_16 : decode cX6_isPrime 16 = .ok (.bipush 7, 2) := by decide +kernel
theorem dX6_isPrime_18 : decode cX6_isPrime 18 = .ok (.if_icmp .ne 7, 3) := by decide +kernel
theorem dX6_isPrime_21 : decode cX6_isPrime 21 = .ok (.iconst 1, 1) := by decide +kernel
theorem dX6_isPrime_22 : decode cX6_isPrime 22 = .ok (.goto 4, 3) := by decide +kernel
theorem dX6_isPrime_25 : decode cX6_isPrime 25 = .ok (.iconst 0, 1) := by decide +kernel
theorem dX6_isPrime_26 : decode cX6_isPrime 26 = .ok (.ireturn, 1) := by decide +kernel
theorem dX6_readNumber_0 : decode cX6_readNumber 0 = .ok (.aload_n 0, 1) := by decide +kernel
theorem dX6_readNumber_1 : decode cX6_readNumber 1 = .ok (.getfield 72, 3) := by decide +kernel
theorem dX6_readNumber_4 : decode cX6_readNumber 4 = .ok (.ifCond .ne 21, 3) := by decide +kernel
theorem dX6_readNumber_7 : decode cX6_readNumber 7 = .ok (.aload_n 0, 1) := by decide +kernel
theorem dX6_readNumber_8 : decode cX6_readNumber 8 = .ok (.aload_n 0, 1) := by decide +kernel
theorem dX6_readNumber_9 : decode cX6_readNumber 9 = .ok (.getfield 92, 3) := by decide +kernel
theorem dX6_readNumber_12 : decode cX6_readNumber 12 = .ok (.iconst 2, 1) := by decide +kernel
theorem dX6_readNumber_13 : decode cX6_readNumber 13 = .ok (.if_icmp .ne 7, 3) := by decide +kernel
theorem dX6_readNumber_16 : decode cX6_readNumber 16 = .ok (.iconst 1, 1) := by decide +kernel
theorem dX6_readNumber_17 : decode cX6_readNumber 17 = .ok (.goto 4, 3) := by decide +kernel
theorem dX6_readNumber_20 : decode cX6_readNumber 20 = .ok (.iconst 0, 1) := by decide +kernel
theorem dX6_readNumber_21 : decode cX6_readNumber 21 = .ok (.iconst 2, 1) := by decide +kernel
theorem dX6_readNumber_22 : decode cX6_readNumber 22 = .ok (.invokevirtual 106, 3) := by decide +kernel
theorem dX6_readNumber_25 : decode cX6_readNumber 25 = .ok (.aload_n 0, 1) := by decide +kernel
theorem dX6_readNumber_26 : decode cX6_readNumber 26 = .ok (.getfield 72, 3) := by decide +kernel
theorem dX6_readNumber_29 : decode cX6_readNumber 29 = .ok (.ifCond .ne 20, 3) := by decide +kernel
theorem dX6_readNumber_32 : decode cX6_readNumber 32 = .ok (.aload_n 0, 1) := by decide +kernel
theorem dX6_readNumber_33 : decode cX6_readNumber 33 = .ok (.aload_n 0, 1) := by decide +kernel
theorem dX6_readNumber_34 : decode cX6_readNumber 34 = .ok (.getfield 103, 3) := by decide +kernel
theorem dX6_readNumber_37 : decode cX6_readNumber 37 = .ok (.i2l, 1) := by decide +kernel
theorem dX6_readNumber_38 : decode cX6_readNumber 38 = .ok (.iload_n 1, 1) := by decide +kernel
theorem dX6_readNumber_39 : decode cX6_readNumber 39 = .ok (.i2l, 1) := by decide +kernel
theorem dX6_readNumber_40 : decode cX6_readNumber 40 = .ok (.iload_n 2, 1) := by decide +kernel
theorem dX6_readNumber_41 : decode cX6_readNumber 41 = .ok (.i2l, 1) := by decide +kernel
theorem dX6_readNumber_42 : decode cX6_readNumber 42 = .ok (.invokestatic 64, 3) := by decide +kernel
theorem dX6_readNumber_45 : decode cX6_readNumber 45 = .ok (.iconst 3, 1) := by decide +kernel
theorem dX6_readNumber_46 : decode cX6_readNumber 46 = .ok (.invokevirtual 106, 3) := by decide +kernel
theorem dX6_readNumber_49 : decode cX6_readNumber 49 = .ok (.aload_n 0, 1) := by decide +kernel
theorem dX6_readNumber_50 : decode cX6_readNumber 50 = .ok (.getfield 72, 3) := by decide +kernel
theorem dX6_readNumber_53 : decode cX6_readNumber 53 = .ok (.ifCond .ne 10, 3) := by decide +kernel
theorem dX6_readNumber_56 : decode cX6_readNumber 56 = .ok (.aload_n 0, 1) := by decide +kernel
theorem dX6_readNumber_57 : decode cX6_readNumber 57 = .ok (.getfield 103, 3) := by decide +kernel
theorem dX6_readNumber_60 : decode cX6_readNumber 60 = .ok (.goto 4, 3) := by decide +kernel
theorem dX6_readNumber_63 : decode cX6_readNumber 63 = .ok (.iconst 0, 1) := by decide +kernel
theorem dX6_readNumber_64 : decode cX6_readNumber 64 = .ok (.ireturn, 1) := by decide +kernel
theorem dX6_draws_0 : decode cX6_draws 0 = .ok (.aload_n 0, 1) := by decide +kernel
theorem dX6_draws_1 : decode cX6_draws 1 = .ok (.getfield 20, 3) := by decide +kernel
theorem dX6_draws_4 : decode cX6_draws 4 = .ok (.iconst 3, 1) := by decide +kernel
theorem dX6_draws_5 : decode cX6_draws 5 = .ok (.bipush 16, 2) := by decide +kernel
theorem dX6_draws_7 : decode cX6_draws 7 = .ok (.iload_n 1, 1) := by decide +kernel
theorem dX6_draws_8 : decode cX6_draws 8 = .ok (.imul, 1) := by decide +kernel
theorem dX6_draws_9 : decode cX6_draws 9 = .ok (.iadd, 1) := by decide +kernel
theorem dX6_draws_10 : decode cX6_draws 10 = .ok (.iconst 4, 1) := by decide +kernel
theorem dX6_draws_11 : decode cX6_draws 11 = .ok (.iload_n 2, 1) := by decide +kernel
theorem dX6_draws_12 : decode cX6_draws 12 = .ok (.imul, 1) := by decide +kernel
theorem dX6_draws_13 : decode cX6_draws 13 = .ok (.iadd, 1) := by decide +kernel
theorem dX6_draws_14 : decode cX6_draws 14 = .ok (.iload_n 3, 1) := by decide +kernel
theorem dX6_draws_15 : decode cX6_draws 15 = .ok (.iadd, 1) := by decide +kernel
theorem dX6_draws_16 : decode cX6_draws 16 = .ok (.iload 4, 2) := by decide +kernel
theorem dX6_draws_18 : decode cX6_draws 18 = .ok (.iastore, 1) := by decide +kernel
theorem dX6_draws_19 : decode cX6_draws 19 = .ok (.return_, 1) := by decide +kernel
theorem dX6_blockComes_0 : decode cX6_blockComes 0 = .ok (.aload_n 0, 1) := by decide +kernel
theorem dX6_blockComes_1 : decode cX6_blockComes 1 = .ok (.getfield 20, 3) := by decide +kernel
theorem dX6_blockComes_4 : decode cX6_blockComes 4 = .ok (.iconst 1, 1) := by decide +kernel
theorem dX6_blockComes_5 : decode cX6_blockComes 5 = .ok (.iaload, 1) := by decide +kernel
theorem dX6_blockComes_6 : decode cX6_blockComes 6 = .ok (.istore 4, 2) := by decide +kernel
theorem dX6_blockComes_8 : decode cX6_blockComes 8 = .ok (.aload_n 0, 1) := by decide +kernel
theorem dX6_blockComes_9 : decode cX6_blockComes 9 = .ok (.getfield 20, 3) := by decide +kernel
theorem dX6_blockComes_12 : decode cX6_blockComes 12 = .ok (.iconst 2, 1) := by decide +kernel
theorem dX6_blockComes_13 : decode cX6_blockComes 13 = .ok (.iaload, 1) := by decide +kernel
theorem dX6_blockComes_14 : decode cX6_blockComes 14 = .ok (.istore 5, 2) := by decide +kernel
theorem dX6_blockComes_16 : decode cX6_blockComes 16 = .ok (.iload_n 1, 1) := by decide +kernel
theorem dX6_blockComes_17 : decode cX6_blockComes 17 = .ok (.iconst 2, 1) := by decide +kernel
theorem dX6_blockComes_18 : decode cX6_blockComes 18 = .ok (.if_icmp .ne 9, 3) := by decide +kernel
theorem dX6_blockComes_21 : decode cX6_blockComes 21 = .ok (.iload_n 2, 1) := by decide +kernel
theorem dX6_blockComes_22 : decode cX6_blockComes 22 = .ok (.iconst 1, 1) := by decide +kernel
theorem dX6_blockComes_23 : decode cX6_blockComes 23 = .ok (.iadd, 1) := by decide +kernel
theorem dX6_blockComes_24 : decode cX6_blockComes 24 = .ok (.goto 4, 3) := by decide +kernel
theorem dX6_blockComes_27 : decode cX6_blockComes 27 = .ok (.iload_n 2, 1) := by decide +kernel
theorem dX6_blockComes_28 : decode cX6_blockComes 28 = .ok (.istore 6, 2) := by decide +kernel
theorem dX6_blockComes_30 : decode cX6_blockComes 30 = .ok (.iload_n 1, 1) := by decide +kernel
theorem dX6_blockComes_31 : decode cX6_blockComes 31 = .ok (.iconst 1, 1) := by decide +kernel
theorem dX6_blockComes_32 : decode cX6_blockComes 32 = .ok (.if_icmp .ne 9, 3) := by decide +kernel
theorem dX6_blockComes_35 : decode cX6_blockComes 35 = .ok (.iload_n 2, 1) := by decide +kernel
theorem dX6_blockComes_36 : decode cX6_blockComes 36 = .ok (.iconst 1, 1) := by decide +kernel
theorem dX6_blockComes_37 : decode cX6_blockComes 37 = .ok (.iadd, 1) := by decide +kernel
theorem dX6_blockComes_38 : decode cX6_blockComes 38 = .ok (.goto 4, 3) := by decide +kernel
theorem dX6_blockComes_41 : decode cX6_blockComes 41 = .ok (.iload_n 2, 1) := by decide +kernel
theorem dX6_blockComes_42 : decode cX6_blockComes 42 = .ok (.istore 7, 2) := by decide +kernel
theorem dX6_blockComes_44 : decode cX6_blockComes 44 = .ok (.aload_n 0, 1) := by decide +kernel
theorem dX6_blockComes_45 : decode cX6_blockComes 45 = .ok (.getfield 72, 3) := by decide +kernel
theorem dX6_blockComes_48 : decode cX6_blockComes 48 = .ok (.ifCond .ne 31, 3) := by decide +kernel
theorem dX6_blockComes_51 : decode cX6_blockComes 51 = .ok (.aload_n 0, 1) := by decide +kernel
theorem dX6_blockComes_52 : decode cX6_blockComes 52 = .ok (.iload 4, 2) := by decide +kernel
theorem dX6_blockComes_54 : decode cX6_blockComes 54 = .ok (.iload 6, 2) := by decide +kernel
theorem dX6_blockComes_56 : decode cX6_blockComes 56 = .ok (.iadd, 1) := by decide +kernel
theorem dX6_blockComes_57 : decode cX6_blockComes 57 = .ok (.iconst 4, 1) := by decide +kernel
theorem dX6_blockComes_58 : decode cX6_blockComes 58 = .ok (.if_icmp .gt 16, 3) := by decide +kernel
theorem dX6_blockComes_61 : decode cX6_blockComes 61 = .ok (.iload 5, 2) := by decide +kernel
theorem dX6_blockComes_63 : decode cX6_blockComes 63 = .ok (.iload 7, 2) := by decide +kernel
theorem dX6_blockComes_65 : decode cX6_blockComes 65 = .ok (.iadd, 1) := by decide +kernel
theorem dX6_blockComes_66 : decode cX6_blockComes 66 = .ok (.iconst 4, 1) := by decide +kernel
theorem dX6_blockComes_67 : decode cX6_blockComes 67 = .ok (.if_icmp .gt 7, 3) := by decide +kernel
theorem dX6_blockComes_70 : decode cX6_blockComes 70 = .ok (.iconst 1, 1) := by decide +kernel
theorem dX6_blockComes_71 : decode cX6_blockComes 71 = .ok (.goto 4, 3) := by decide +kernel
theorem dX6_blockComes_74 : decode cX6_blockComes 74 = .ok (.iconst 0, 1) := by decide +kernel
theorem dX6_blockComes_75 : decode cX6_blockComes 75 = .ok (.iconst 5, 1) := by decide +kernel
theorem dX6_blockComes_76 : decode cX6_blockComes 76 = .ok (.invokevirtual 106, 3) := by decide +kernel
theorem dX6_blockComes_79 : decode cX6_blockComes 79 = .ok (.aload_n 0, 1) := by decide +kernel
theorem dX6_blockComes_80 : decode cX6_blockComes 80 = .ok (.getfield 72, 3) := by decide +kernel
theorem dX6_blockComes_83 : decode cX6_blockComes 83 = .ok (.ifCond .le 4, 3) := by decide +kernel
theorem dX6_blockComes_86 : decode cX6_blockComes 86 = .ok (.return_, 1) := by decide +kernel
theorem dX6_blockComes_87 : decode cX6_blockComes 87 = .ok (.iconst 0, 1) := by decide +kernel
theorem dX6_blockComes_88 : decode cX6_blockComes 88 = .ok (.istore 8, 2) := by decide +kernel
theorem dX6_blockComes_90 : decode cX6_blockComes 90 = .ok (.iload 8, 2) := by decide +kernel
theorem dX6_blockComes_92 : decode cX6_blockComes 92 = .ok (.iload_n 2, 1) := by decide +kernel
theorem dX6_blockComes_93 : decode cX6_blockComes 93 = .ok (.if_icmp .ge 152, 3) := by decide +kernel
theorem dX6_blockComes_96 : decode cX6_blockComes 96 = .ok (.aload_n 0, 1) := by decide +kernel
theorem dX6_blockComes_97 : decode cX6_blockComes 97 = .ok (.iconst 0, 1) := by decide +kernel
theorem dX6_blockComes_98 : decode cX6_blockComes 98 = .ok (.iload 4, 2) := by decide +kernel
theorem dX6_blockComes_100 : decode cX6_blockComes 100 = .ok (.iload 8, 2) := by decide +kernel
theorem dX6_blockComes_102 : decode cX6_blockComes 102 = .ok (.iadd, 1) := by decide +kernel
theorem dX6_blockComes_103 : decode cX6_blockComes 103 = .ok (.iload 5, 2) := by decide +kernel
theorem dX6_blockComes_105 : decode cX6_blockComes 105 = .ok (.iload 8, 2) := by decide +kernel
theorem dX6_blockComes_107 : decode cX6_blockComes 107 = .ok (.iadd, 1) := by decide +kernel
theorem dX6_blockComes_108 : decode cX6_blockComes 108 = .ok (.iload_n 1, 1) := by decide +kernel
theorem dX6_blockComes_109 : decode cX6_blockComes 109 = .ok (.iconst 4, 1) := by decide +kernel
theorem dX6_blockComes_110 : decode cX6_blockComes 110 = .ok (.if_icmp .ne 7, 3) := by decide +kernel
theorem dX6_blockComes_113 : decode cX6_blockComes 113 = .ok (.iload_n 3, 1) := by decide +kernel
theorem dX6_blockComes_114 : decode cX6_blockComes 114 = .ok (.goto 4, 3) := by decide +kernel
theorem dX6_blockComes_117 : decode cX6_blockComes 117 = .ok (.iconst 1, 1) := by decide +kernel
theorem dX6_blockComes_118 : decode cX6_blockComes 118 = .ok (.invokevirtual 110, 3) := by decide +kernel
theorem dX6_blockComes_121 : decode cX6_blockComes 121 = .ok (.iload_n 1, 1) := by decide +kernel
theorem dX6_blockComes_122 : decode cX6_blockComes 122 = .ok (.iconst 1, 1) := by decide +kernel
theorem dX6_blockComes_123 : decode cX6_blockComes 123 = .ok (.if_icmp .ne 24, 3) := by decide +kernel
theorem dX6_blockComes_126 : decode cX6_blockComes 126 = .ok (.aload_n 0, 1) := by decide +kernel
theorem dX6_blockComes_127 : decode cX6_blockComes 127 = .ok (.iconst 1, 1) := by decide +kernel
theorem dX6_blockComes_128 : decode cX6_blockComes 128 = .ok (.iload 4, 2) := by decide +kernel
theorem dX6_blockComes_130 : decode cX6_blockComes 130 = .ok (.iload 8, 2) := by decide +kernel
theorem dX6_blockComes_132 : decode cX6_blockComes 132 = .ok (.iadd, 1) := by decide +kernel
theorem dX6_blockComes_133 : decode cX6_blockComes 133 = .ok (.iload 5, 2) := by decide +kernel
theorem dX6_blockComes_135 : decode cX6_blockComes 135 = .ok (.iload 8, 2) := by decide +kernel
theorem dX6_blockComes_137 : decode cX6_blockComes 137 = .ok (.iadd, 1) := by decide +kernel
theorem dX6_blockComes_138 : decode cX6_blockComes 138 = .ok (.iconst 1, 1) := by decide +kernel
theorem dX6_blockComes_139 : decode cX6_blockComes 139 = .ok (.iadd, 1) := by decide +kernel
theorem dX6_blockComes_140 : decode cX6_blockComes 140 = .ok (.iconst 1, 1) := by decide +kernel
theorem dX6_blockComes_141 : decode cX6_blockComes 141 = .ok (.invokevirtual 110, 3) := by decide +kernel
theorem dX6_blockComes_144 : decode cX6_blockComes 144 = .ok (.goto 50, 3) := by decide +kernel
theorem dX6_blockComes_147 : decode cX6_blockComes 147 = .ok (.iload_n 1, 1) := by decide +kernel
theorem dX6_blockComes_148 : decode cX6_blockComes 148 = .ok (.iconst 2, 1) := by decide +kernel
theorem dX6_blockComes_149 : decode cX6_blockComes 149 = .ok (.if_icmp .ne 24, 3) := by decide +kernel
theorem dX6_blockComes_152 : decode cX6_blockComes 152 = .ok (.aload_n 0, 1) := by decide +kernel
theorem dX6_blockComes_153 : decode cX6_blockComes 153 = .ok (.iconst 1, 1) := by decide +kernel
theorem dX6_blockComes_154 : decode cX6_blockComes 154 = .ok (.iload 4, 2) := by decide +kernel
theorem dX6_blockComes_156 : decode cX6_blockComes 156 = .ok (.iload 8, 2) := by decide +kernel
theorem dX6_blockComes_158 : decode cX6_blockComes 158 = .ok (.iadd, 1) := by decide +kernel
theorem dX6_blockComes_159 : decode cX6_blockComes 159 = .ok (.iconst 1, 1) := by decide +kernel
theorem dX6_blockComes_160 : decode cX6_blockComes 160 = .ok (.iadd, 1) := by decide +kernel
theorem dX6_blockComes_161 : decode cX6_blockComes 161 = .ok (.iload 5, 2) := by decide +kernel
theorem dX6_blockComes_163 : decode cX6_blockComes 163 = .ok (.iload 8, 2) := by decide +kernel
theorem dX6_blockComes_165 : decode cX6_blockComes 165 = .ok (.iadd, 1) := by decide +kernel
theorem dX6_blockComes_166 : decode cX6_blockComes 166 = .ok (.iconst 1, 1) := by decide +kernel
theorem dX6_blockComes_167 : decode cX6_blockComes 167 = .ok (.invokevirtual 110, 3) := by decide +kernel
theorem dX6_blockComes_170 : decode cX6_blockComes 170 = .ok (.goto 24, 3) := by decide +kernel
theorem dX6_blockComes_173 : decode cX6_blockComes 173 = .ok (.iload_n 1, 1) := by decide +kernel
theorem dX6_blockComes_174 : decode cX6_blockComes 174 = .ok (.iconst 4, 1) := by decide +kernel
theorem dX6_blockComes_175 : decode cX6_blockComes 175 = .ok (.if_icmp .ne 19, 3) := by decide +kernel
theorem dX6_blockComes_178 : decode cX6_blockComes 178 = .ok (.aload_n 0, 1) := by decide +kernel
theorem dX6_blockComes_179 : decode cX6_blockComes 179 = .ok (.iconst 1, 1) := by decide +kernel
theorem dX6_blockComes_180 : decode cX6_blockComes 180 = .ok (.iload 4, 2) := by decide +kernel
theorem dX6_blockComes_182 : decode cX6_blockComes 182 = .ok (.iload 8, 2) := by decide +kernel
theorem dX6_blockComes_184 : decode cX6_blockComes 184 = .ok (.iadd, 1) := by decide +kernel
theorem dX6_blockComes_185 : decode cX6_blockComes 185 = .ok (.iload 5, 2) := by decide +kernel
theorem dX6_blockComes_187 : decode cX6_blockComes 187 = .ok (.iload 8, 2) := by decide +kernel
theorem dX6_blockComes_189 : decode cX6_blockComes 189 = .ok (.iadd, 1) := by decide +kernel
theorem dX6_blockComes_190 : decode cX6_blockComes 190 = .ok (.iconst 1, 1) := by decide +kernel
theorem dX6_blockComes_191 : decode cX6_blockComes 191 = .ok (.invokevirtual 110, 3) := by decide +kernel
theorem dX6_blockComes_194 : decode cX6_blockComes 194 = .ok (.iload 8, 2) := by decide +kernel
theorem dX6_blockComes_196 : decode cX6_blockComes 196 = .ok (.iconst 1, 1) := by decide +kernel
theorem dX6_blockComes_197 : decode cX6_blockComes 197 = .ok (.iadd, 1) := by decide +kernel
theorem dX6_blockComes_198 : decode cX6_blockComes 198 = .ok (.iload_n 2, 1) := by decide +kernel
theorem dX6_blockComes_199 : decode cX6_blockComes 199 = .ok (.if_icmp .ge 40, 3) := by decide +kernel
theorem dX6_blockComes_202 : decode cX6_blockComes 202 = .ok (.iload_n 1, 1) := by decide +kernel
theorem dX6_blockComes_203 : decode cX6_blockComes 203 = .ok (.iconst 3, 1) := by decide +kernel
theorem dX6_blockComes_204 : decode cX6_blockComes 204 = .ok (.if_icmp .eq 8, 3) := by decide +kernel
theorem dX6_blockComes_207 : decode cX6_blockComes 207 = .ok (.iload_n 1, 1) := by decide +kernel
theorem dX6_blockComes_208 : decode cX6_blockComes 208 = .ok (.iconst 4, 1) := by decide +kernel
theorem dX6_blockComes_209 : decode cX6_blockComes 209 = .ok (.if_icmp .ne 30, 3) := by decide +kernel
theorem dX6_blockComes_212 : decode cX6_blockComes 212 = .ok (.aload_n 0, 1) := by decide +kernel
theorem dX6_blockComes_213 : decode cX6_blockComes 213 = .ok (.iload_n 1, 1) := by decide +kernel
theorem dX6_blockComes_214 : decode cX6_blockComes 214 = .ok (.iconst 3, 1) := by decide +kernel
theorem dX6_blockComes_215 : decode cX6_blockComes 215 = .ok (.if_icmp .ne 7, 3) := by decide +kernel
theorem dX6_blockComes_218 : decode cX6_blockComes 218 = .ok (.iconst 1, 1) := by decide +kernel
theorem dX6_blockComes_219 : decode cX6_blockComes 219 = .ok (.goto 4, 3) := by decide +kernel
theorem dX6_blockComes_222 : decode cX6_blockComes 222 = .ok (.iconst 0, 1) := by decide +kernel
theorem dX6_blockComes_223 : decode cX6_blockComes 223 = .ok (.iload 4, 2) := by decide +kernel
theorem dX6_blockComes_225 : decode cX6_blockComes 225 = .ok (.iload 8, 2) := by decide +kernel
theorem dX6_blockComes_227 : decode cX6_blockComes 227 = .ok (.iadd, 1) := by decide +kernel
theorem dX6_blockComes_228 : decode cX6_blockComes 228 = .ok (.iload 5, 2) := by decide +kernel
theorem dX6_blockComes_230 : decode cX6_blockComes 230 = .ok (.iload 8, 2) := by decide +kernel
theorem dX6_blockComes_232 : decode cX6_blockComes 232 = .ok (.iadd, 1) := by decide +kernel
theorem dX6_blockComes_233 : decode cX6_blockComes 233 = .ok (.iconst 1, 1) := by decide +kernel
theorem dX6_blockComes_234 : decode cX6_blockComes 234 = .ok (.iadd, 1) := by decide +kernel
theorem dX6_blockComes_235 : decode cX6_blockComes 235 = .ok (.iconst 1, 1) := by decide +kernel
theorem dX6_blockComes_236 : decode cX6_blockComes 236 = .ok (.invokevirtual 110, 3) := by decide +kernel
theorem dX6_blockComes_239 : decode cX6_blockComes 239 = .ok (.iinc 8 1, 3) := by decide +kernel
theorem dX6_blockComes_242 : decode cX6_blockComes 242 = .ok (.goto (-152), 3) := by decide +kernel
theorem dX6_blockComes_245 : decode cX6_blockComes 245 = .ok (.aload_n 0, 1) := by decide +kernel
theorem dX6_blockComes_246 : decode cX6_blockComes 246 = .ok (.getfield 20, 3) := by decide +kernel
theorem dX6_blockComes_249 : decode cX6_blockComes 249 = .ok (.iconst 1, 1) := by decide +kernel
theorem dX6_blockComes_250 : decode cX6_blockComes 250 = .ok (.dup2, 1) := by decide +kernel
theorem dX6_blockComes_251 : decode cX6_blockComes 251 = .ok (.iaload, 1) := by decide +kernel
theorem dX6_blockComes_252 : decode cX6_blockComes 252 = .ok (.iload 6, 2) := by decide +kernel
theorem dX6_blockComes_254 : decode cX6_blockComes 254 = .ok (.iadd, 1) := by decide +kernel
theorem dX6_blockComes_255 : decode cX6_blockComes 255 = .ok (.iastore, 1) := by decide +kernel
theorem dX6_blockComes_256 : decode cX6_blockComes 256 = .ok (.aload_n 0, 1) := by decide +kernel
theorem dX6_blockComes_257 : decode cX6_blockComes 257 = .ok (.getfield 20, 3) := by decide +kernel
theorem dX6_blockComes_260 : decode cX6_blockComes 260 = .ok (.iconst 2, 1) := by decide +kernel
theorem dX6_blockComes_261 : decode cX6_blockComes 261 = .ok (.dup2, 1) := by decide +kernel
theorem dX6_blockComes_262 : decode cX6_blockComes 262 = .ok (.iaload, 1) := by decide +kernel
theorem dX6_blockComes_263 : decode cX6_blockComes 263 = .ok (.iload 7, 2) := by decide +kernel
theorem dX6_blockComes_265 : decode cX6_blockComes 265 = .ok (.iadd, 1) := by decide +kernel
theorem dX6_blockComes_266 : decode cX6_blockComes 266 = .ok (.iastore, 1) := by decide +kernel
theorem dX6_blockComes_267 : decode cX6_blockComes 267 = .ok (.return_, 1) := by decide +kernel
theorem dX6_readLineOf_0 : decode cX6_readLineOf 0 = .ok (.iload_n 1, 1) := by decide +kernel
theorem dX6_readLineOf_1 : decode cX6_readLineOf 1 = .ok (.ifCond .ne 39, 3) := by decide +kernel
theorem dX6_readLineOf_4 : decode cX6_readLineOf 4 = .ok (.aload_n 0, 1) := by decide +kernel
theorem dX6_readLineOf_5 : decode cX6_readLineOf 5 = .ok (.iconst 2, 1) := by decide +kernel
theorem dX6_readLineOf_6 : decode cX6_readLineOf 6 = .ok (.bipush 7, 2) := by decide +kernel
theorem dX6_readLineOf_8 : decode cX6_readLineOf 8 = .ok (.invokevirtual 114, 3) := by decide +kernel
theorem dX6_readLineOf_11 : decode cX6_readLineOf 11 = .ok (.istore_n 2, 1) := by decide +kernel
theorem dX6_readLineOf_12 : decode cX6_readLineOf 12 = .ok (.aload_n 0, 1) := by decide +kernel
theorem dX6_readLineOf_13 : decode cX6_readLineOf 13 = .ok (.getfield 72, 3) := by decide +kernel
theorem dX6_readLineOf_16 : decode cX6_readLineOf 16 = .ok (.ifCond .ne 12, 3) := by decide +kernel
theorem dX6_readLineOf_19 : decode cX6_readLineOf 19 = .ok (.aload_n 0, 1) := by decide +kernel
theorem dX6_readLineOf_20 : decode cX6_readLineOf 20 = .ok (.iload_n 2, 1) := by decide +kernel
theorem dX6_readLineOf_21 : decode cX6_readLineOf 21 = .ok (.invokestatic 118, 3) := by decide +kernel
theorem dX6_readLineOf_24 : decode cX6_readLineOf 24 = .ok (.iconst 3, 1) := by decide +kernel
theorem dX6_readLineOf_25 : decode cX6_readLineOf 25 = .ok (.invokevirtual 106, 3) := by decide +kernel
theorem dX6_readLineOf_28 : decode cX6_readLineOf 28 = .ok (.aload_n 0, 1) := by decide +kernel
theorem dX6_readLineOf_29 : decode cX6_readLineOf 29 = .ok (.getfield 20, 3) := by decide +kernel
theorem dX6_readLineOf_32 : decode cX6_readLineOf 32 = .ok (.iconst 0, 1) := by decide +kernel
theorem dX6_readLineOf_33 : decode cX6_readLineOf 33 = .ok (.iload_n 2, 1) := by decide +kernel
theorem dX6_readLineOf_34 : decode cX6_readLineOf 34 = .ok (.iastore, 1) := by decide +kernel
theorem dX6_readLineOf_35 : decode cX6_readLineOf 35 = .ok (.aload_n 0, 1) := by decide +kernel
theorem dX6_readLineOf_36 : decode cX6_readLineOf 36 = .ok (.invokevirtual 122, 3) := by decide +kernel
theorem dX6_readLineOf_39 : decode cX6_readLineOf 39 = .ok (.return_, 1) := by decide +kernel
theorem dX6_readLineOf_40 : decode cX6_readLineOf 40 = .ok (.iconst 0, 1) := by decide +kernel
theorem dX6_readLineOf_41 : decode cX6_readLineOf 41 = .ok (.istore_n 2, 1) := by decide +kernel
theorem dX6_readLineOf_42 : decode cX6_readLineOf 42 = .ok (.iload_n 1, 1) := by decide +kernel
theorem dX6_readLineOf_43 : decode cX6_readLineOf 43 = .ok (.iconst 4, 1) := by decide +kernel
theorem dX6_readLineOf_44 : decode cX6_readLineOf 44 = .ok (.if_icmp .ne 35, 3) := by decide +kernel
theorem dX6_readLineOf_47 : decode cX6_readLineOf 47 = .ok (.aload_n 0, 1) := by decide +kernel
theorem dX6_readLineOf_48 : decode cX6_readLineOf 48 = .ok (.iconst 0, 1) := by decide +kernel
theorem dX6_readLineOf_49 : decode cX6_readLineOf 49 = .ok (.bipush 6, 2) := by decide +kernel
theorem dX6_readLineOf_51 : decode cX6_readLineOf 51 = .ok (.invokevirtual 114, 3) := by decide +kernel
theorem dX6_readLineOf_54 : decode cX6_readLineOf 54 = .ok (.istore_n 2, 1) := by decide +kernel
theorem dX6_readLineOf_55 : decode cX6_readLineOf 55 = .ok (.aload_n 0, 1) := by decide +kernel
theorem dX6_readLineOf_56 : decode cX6_readLineOf 56 = .ok (.iload_n 2, 1) := by decide +kernel
theorem dX6_readLineOf_57 : decode cX6_readLineOf 57 = .ok (.aload_n 0, 1) := by decide +kernel
theorem dX6_readLineOf_58 : decode cX6_readLineOf 58 = .ok (.getfield 125, 3) := by decide +kernel
theorem dX6_readLineOf_61 : decode cX6_readLineOf 61 = .ok (.if_icmp .le 7, 3) := by decide +kernel
theorem dX6_readLineOf_64 : decode cX6_readLineOf 64 = .ok (.iload_n 2, 1) := by decide +kernel
theorem dX6_readLineOf_65 : decode cX6_readLineOf 65 = .ok (.goto 7, 3) := by decide +kernel
theorem dX6_readLineOf_68 : decode cX6_readLineOf 68 = .ok (.aload_n 0, 1) := by decide +kernel
theorem dX6_readLineOf_69 : decode cX6_readLineOf 69 = .ok (.getfield 125, 3) := by decide +kernel
theorem dX6_readLineOf_72 : decode cX6_readLineOf 72 = .ok (.putfield 125, 3) := by decide +kernel
theorem dX6_readLineOf_75 : decode cX6_readLineOf 75 = .ok (.aload_n 0, 1) := by decide +kernel
theorem dX6_readLineOf_76 : decode cX6_readLineOf 76 = .ok (.invokevirtual 122, 3) := by decide +kernel
theorem dX6_readLineOf_79 : decode cX6_readLineOf 79 = .ok (.aload_n 0, 1) := by decide +kernel
theorem dX6_readLineOf_80 : decode cX6_readLineOf 80 = .ok (.iload_n 1, 1) := by decide +kernel
theorem dX6_readLineOf_81 : decode cX6_readLineOf 81 = .ok (.iconst 1, 1) := by decide +kernel
theorem dX6_readLineOf_82 : decode cX6_readLineOf 82 = .ok (.if_icmp .eq 8, 3) := by decide +kernel
theorem dX6_readLineOf_85 : decode cX6_readLineOf 85 = .ok (.iload_n 1, 1) := by decide +kernel
theorem dX6_readLineOf_86 : decode cX6_readLineOf 86 = .ok (.iconst 2, 1) := by decide +kernel
theorem dX6_readLineOf_87 : decode cX6_readLineOf 87 = .ok (.if_icmp .ne 7, 3) := by decide +kernel
theorem dX6_readLineOf_90 : decode cX6_readLineOf 90 = .ok (.iconst 0, 1) := by decide +kernel
theorem dX6_readLineOf_91 : decode cX6_readLineOf 91 = .ok (.goto 4, 3) := by decide +kernel
theorem dX6_readLineOf_94 : decode cX6_readLineOf 94 = .ok (.iconst 1, 1) := by decide +kernel
theorem dX6_readLineOf_95 : decode cX6_readLineOf 95 = .ok (.iconst 4, 1) := by decide +kernel
theorem dX6_readLineOf_96 : decode cX6_readLineOf 96 = .ok (.invokevirtual 114, 3) := by decide +kernel
theorem dX6_readLineOf_99 : decode cX6_readLineOf 99 = .ok (.istore_n 3, 1) := by decide +kernel
theorem dX6_readLineOf_100 : decode cX6_readLineOf 100 = .ok (.aload_n 0, 1) := by decide +kernel
theorem dX6_readLineOf_101 : decode cX6_readLineOf 101 = .ok (.iload_n 1, 1) := by decide +kernel
theorem dX6_readLineOf_102 : decode cX6_readLineOf 102 = .ok (.iload_n 3, 1) := by decide +kernel
theorem dX6_readLineOf_103 : decode cX6_readLineOf 103 = .ok (.iload_n 2, 1) := by decide +kernel
theorem dX6_readLineOf_104 : decode cX6_readLineOf 104 = .ok (.invokevirtual 128, 3) := by decide +kernel
theorem dX6_readLineOf_107 : decode cX6_readLineOf 107 = .ok (.aload_n 0, 1) := by decide +kernel
theorem dX6_readLineOf_108 : decode cX6_readLineOf 108 = .ok (.invokevirtual 122, 3) := by decide +kernel
theorem dX6_readLineOf_111 : decode cX6_readLineOf 111 = .ok (.return_, 1) := by decide +kernel
theorem dX6_readLine_0 : decode cX6_readLine 0 = .ok (.aload_n 0, 1) := by decide +kernel
theorem dX6_readLine_1 : decode cX6_readLine 1 = .ok (.getfield 92, 3) := by decide +kernel
theorem dX6_readLine_4 : decode cX6_readLine 4 = .ok (.iconst 1, 1) := by decide +kernel
theorem dX6_readLine_5 : decode cX6_readLine 5 = .ok (.if_icmp .ne 10, 3) := by decide +kernel
theorem dX6_readLine_8 : decode cX6_readLine 8 = .ok (.aload_n 0, 1) := by decide +kernel
theorem dX6_readLine_9 : decode cX6_readLine 9 = .ok (.invokevirtual 132, 3) := by decide +kernel
theorem dX6_readLine_12 : decode cX6_readLine 12 = .ok (.goto 5, 3) := by decide +kernel
theorem dX6_readLine_15 : decode cX6_readLine 15 = .ok (.bipush (-4), 2) := by decide +kernel
theorem dX6_readLine_17 : decode cX6_readLine 17 = .ok (.istore_n 1, 1) := by decide +kernel
theorem dX6_readLine_18 : decode cX6_readLine 18 = .ok (.aload_n 0, 1) := by decide +kernel
theorem dX6_readLine_19 : decode cX6_readLine 19 = .ok (.iload_n 1, 1) := by decide +kernel
theorem dX6_readLine_20 : decode cX6_readLine 20 = .ok (.bipush (-4), 2) := by decide +kernel
theorem dX6_readLine_22 : decode cX6_readLine 22 = .ok (.if_icmp .eq 7, 3) := by decide +kernel
theorem dX6_readLine_25 : decode cX6_readLine 25 = .ok (.iconst 1, 1) := by decide +kernel
theorem dX6_readLine_26 : decode cX6_readLine 26 = .ok (.goto 4, 3) := by decide +kernel
theorem dX6_readLine_29 : decode cX6_readLine 29 = .ok (.iconst 0, 1) := by decide +kernel
theorem dX6_readLine_30 : decode cX6_readLine 30 = .ok (.iconst 2, 1) := by decide +kernel
theorem dX6_readLine_31 : decode cX6_readLine 31 = .ok (.invokevirtual 106, 3) := by decide +kernel
theorem dX6_readLine_34 : decode cX6_readLine 34 = .ok (.aload_n 0, 1) := by decide +kernel
theorem dX6_readLine_35 : decode cX6_readLine 35 = .ok (.iload_n 1, 1) := by decide +kernel
theorem dX6_readLine_36 : decode cX6_readLine 36 = .ok (.ifCond .ne 10, 3) := by decide +kernel
theorem dX6_readLine_39 : decode cX6_readLine 39 = .ok (.aload_n 0, 1) := by decide +kernel
theorem dX6_readLine_40 : decode cX6_readLine 40 = .ok (.getfield 136, 3) := by decide +kernel
theorem dX6_readLine_43 : decode cX6_readLine 43 = .ok (.ifCond .ne 7, 3) := by decide +kernel
theorem dX6_readLine_46 : decode cX6_readLine 46 = .ok (.iconst 1, 1) := by decide +kernel
theorem dX6_readLine_47 : decode cX6_readLine 47 = .ok (.goto 4, 3) := by decide +kernel
theorem dX6_readLine_50 : decode cX6_readLine 50 = .ok (.iconst 0, 1) := by decide +kernel
theorem dX6_readLine_51 : decode cX6_readLine 51 = .ok (.iconst 4, 1) := by decide +kernel
theorem dX6_readLine_52 : decode cX6_readLine 52 = .ok (.invokevirtual 106, 3) := by decide +kernel
theorem dX6_readLine_55 : decode cX6_readLine 55 = .ok (.aload_n 0, 1) := by decide +kernel
theorem dX6_readLine_56 : decode cX6_readLine 56 = .ok (.aload_n 0, 1) := by decide +kernel
theorem dX6_readLine_57 : decode cX6_readLine 57 = .ok (.getfield 136, 3) := by decide +kernel
theorem dX6_readLine_60 : decode cX6_readLine 60 = .ok (.ifCond .ne 7, 3) := by decide +kernel
theorem dX6_readLine_63 : decode cX6_readLine 63 = .ok (.iload_n 1, 1) := by decide +kernel
theorem dX6_readLine_64 : decode cX6_readLine 64 = .ok (.ifCond .ne 7, 3) := by decide +kernel
theorem dX6_readLine_67 : decode cX6_readLine 67 = .ok (.iconst 1, 1) := by decide +kernel
theorem dX6_readLine_68 : decode cX6_readLine 68 = .ok (.goto 4, 3) := by decide +kernel
theorem dX6_readLine_71 : decode cX6_readLine 71 = .ok (.iconst 0, 1) := by decide +kernel
theorem dX6_readLine_72 : decode cX6_readLine 72 = .ok (.putfield 136, 3) := by decide +kernel
theorem dX6_readLine_75 : decode cX6_readLine 75 = .ok (.aload_n 0, 1) := by decide +kernel
theorem dX6_readLine_76 : decode cX6_readLine 76 = .ok (.invokevirtual 122, 3) := by decide +kernel
theorem dX6_readLine_79 : decode cX6_readLine 79 = .ok (.aload_n 0, 1) := by decide +kernel
theorem dX6_readLine_80 : decode cX6_readLine 80 = .ok (.getfield 72, 3) := by decide +kernel
theorem dX6_readLine_83 : decode cX6_readLine 83 = .ok (.ifCond .le 4, 3) := by decide +kernel
theorem dX6_readLine_86 : decode cX6_readLine 86 = .ok (.return_, 1) := by decide +kernel
theorem dX6_readLine_87 : decode cX6_readLine 87 = .ok (.aload_n 0, 1) := by decide +kernel
theorem dX6_readLine_88 : decode cX6_readLine 88 = .ok (.iload_n 1, 1) := by decide +kernel
theorem dX6_readLine_89 : decode cX6_readLine 89 = .ok (.invokevirtual 140, 3) := by decide +kernel
theorem dX6_readLine_92 : decode cX6_readLine 92 = .ok (.aload_n 0, 1) := by decide +kernel
theorem dX6_readLine_93 : decode cX6_readLine 93 = .ok (.getfield 72, 3) := by decide +kernel
theorem dX6_readLine_96 : decode cX6_readLine 96 = .ok (.ifCond .ne 21, 3) := by decide +kernel
theorem dX6_readLine_99 : decode cX6_readLine 99 = .ok (.aload_n 0, 1) := by decide +kernel
theorem dX6_readLine_100 : decode cX6_readLine 100 = .ok (.aload_n 0, 1) := by decide +kernel
theorem dX6_readLine_101 : decode cX6_readLine 101 = .ok (.getfield 92, 3) := by decide +kernel
theorem dX6_readLine_104 : decode cX6_readLine 104 = .ok (.iconst 3, 1) := by decide +kernel
theorem dX6_readLine_105 : decode cX6_readLine 105 = .ok (.if_icmp .ne 7, 3) := by decide +kernel
theorem dX6_readLine_108 : decode cX6_readLine 108 = .ok (.iconst 1, 1) := by decide +kernel
theorem dX6_readLine_109 : decode cX6_readLine 109 = .ok (.goto 4, 3) := by decide +kernel
theorem dX6_readLine_112 : decode cX6_readLine 112 = .ok (.iconst 0, 1) := by decide +kernel
theorem dX6_readLine_113 : decode cX6_readLine 113 = .ok (.iconst 2, 1) := by decide +kernel
theorem dX6_readLine_114 : decode cX6_readLine 114 = .ok (.invokevirtual 106, 3) := by decide +kernel
theorem dX6_readLine_117 : decode cX6_readLine 117 = .ok (.aload_n 0, 1) := by decide +kernel
theorem dX6_readLine_118 : decode cX6_readLine 118 = .ok (.invokevirtual 122, 3) := by decide +kernel
theorem dX6_readLine_121 : decode cX6_readLine 121 = .ok (.return_, 1) := by decide +kernel
theorem dX6_text_0 : decode cX6_text 0 = .ok (.iconst 0, 1) := by decide +kernel
theorem dX6_text_1 : decode cX6_text 1 = .ok (.istore_n 1, 1) := by decide +kernel
theorem dX6_text_2 : decode cX6_text 2 = .ok (.aload_n 0, 1) := by decide +kernel
theorem dX6_text_3 : decode cX6_text 3 = .ok (.iconst 0, 1) := by decide +kernel
theorem dX6_text_4 : decode cX6_text 4 = .ok (.putfield 72, 3) := by decide +kernel
theorem dX6_text_7 : decode cX6_text 7 = .ok (.aload_n 0, 1) := by decide +kernel
theorem dX6_text_8 : decode cX6_text 8 = .ok (.iconst 0, 1) := by decide +kernel
theorem dX6_text_9 : decode cX6_text 9 = .ok (.putfield 81, 3) := by decide +kernel
theorem dX6_text_12 : decode cX6_text 12 = .ok (.aload_n 0, 1) := by decide +kernel
theorem dX6_text_13 : decode cX6_text 13 = .ok (.iconst 0, 1) := by decide +kernel
theorem dX6_text_14 : decode cX6_text 14 = .ok (.putfield 136, 3) := by decide +kernel
theorem dX6_text_17 : decode cX6_text 17 = .ok (.aload_n 0, 1) := by decide +kernel
theorem dX6_text_18 : decode cX6_text 18 = .ok (.iconst (-1), 1) := by decide +kernel
theorem dX6_text_19 : decode cX6_text 19 = .ok (.putfield 125, 3) := by decide +kernel
theorem dX6_text_22 : decode cX6_text 22 = .ok (.iconst 0, 1) := by decide +kernel
theorem dX6_text_23 : decode cX6_text 23 = .ok (.istore_n 2, 1) := by decide +kernel
theorem dX6_text_24 : decode cX6_text 24 = .ok (.iload_n 2, 1) := by decide +kernel
theorem dX6_text_25 : decode cX6_text 25 = .ok (.bipush 35, 2) := by decide +kernel
theorem dX6_text_27 : decode cX6_text 27 = .ok (.if_icmp .ge 16, 3) := by decide +kernel
theorem dX6_text_30 : decode cX6_text 30 = .ok (.aload_n 0, 1) := by decide +kernel
theorem dX6_text_31 : decode cX6_text 31 = .ok (.getfield 20, 3) := by decide +kernel
theorem dX6_text_34 : decode cX6_text 34 = .ok (.iload_n 2, 1) := by decide +kernel
theorem dX6_text_35 : decode cX6_text 35 = .ok (.iconst 0, 1) := by decide +kernel
theorem dX6_text_36 : decode cX6_text 36 = .ok (.iastore, 1) := by decide +kernel
theorem dX6_text_37 : decode cX6_text 37 = .ok (.iinc 2 1, 3) := by decide +kernel
theorem dX6_text_40 : decode cX6_text 40 = .ok (.goto (-16), 3) := by decide +kernel
theorem dX6_text_43 : decode cX6_text 43 = .ok (.aload_n 0, 1) := by decide +kernel
theorem dX6_text_44 : decode cX6_text 44 = .ok (.getfield 20, 3) := by decide +kernel
theorem dX6_text_47 : decode cX6_text 47 = .ok (.iconst 0, 1) := by decide +kernel
theorem dX6_text_48 : decode cX6_text 48 = .ok (.bipush 7, 2) := by decide +kernel
theorem dX6_text_50 : decode cX6_text 50 = .ok (.iastore, 1) := by decide +kernel
theorem dX6_text_51 : decode cX6_text 51 = .ok (.aload_n 0, 1) := by decide +kernel
theorem dX6_text_52 : decode cX6_text 52 = .ok (.invokevirtual 122, 3) := by decide +kernel
theorem dX6_text_55 : decode cX6_text 55 = .ok (.aload_n 0, 1) := by decide +kernel
theorem dX6_text_56 : decode cX6_text 56 = .ok (.getfield 72, 3) := by decide +kernel
theorem dX6_text_59 : decode cX6_text 59 = .ok (.ifCond .ne 20, 3) := by decide +kernel
theorem dX6_text_62 : decode cX6_text 62 = .ok (.aload_n 0, 1) := by decide +kernel
theorem dX6_text_63 : decode cX6_text 63 = .ok (.getfield 92, 3) := by decide +kernel
theorem dX6_text_66 : decode cX6_text 66 = .ok (.ifCond .eq 13, 3) := by decide +kernel
theorem dX6_text_69 : decode cX6_text 69 = .ok (.aload_n 0, 1) := by decide +kernel
theorem dX6_text_70 : decode cX6_text 70 = .ok (.invokevirtual 144, 3) := by decide +kernel
theorem dX6_text_73 : decode cX6_text 73 = .ok (.iinc 1 1, 3) := by decide +kernel
theorem dX6_text_76 : decode cX6_text 76 = .ok (.goto (-21), 3) := by decide +kernel
theorem dX6_text_79 : decode cX6_text 79 = .ok (.aload_n 0, 1) := by decide +kernel
theorem dX6_text_80 : decode cX6_text 80 = .ok (.aload_n 0, 1) := by decide +kernel
theorem dX6_text_81 : decode cX6_text 81 = .ok (.getfield 125, 3) := by decide +kernel
theorem dX6_text_84 : decode cX6_text 84 = .ok (.aload_n 0, 1) := by decide +kernel
theorem dX6_text_85 : decode cX6_text 85 = .ok (.getfield 20, 3) := by decide +kernel
theorem dX6_text_88 : decode cX6_text 88 = .ok (.iconst 0, 1) := by decide +kernel
theorem dX6_text_89 : decode cX6_text 89 = .ok (.iaload, 1) := by decide +kernel
theorem dX6_text_90 : decode cX6_text 90 = .ok (.if_icmp .ge 7, 3) := by decide +kernel
theorem dX6_text_93 : decode cX6_text 93 = .ok (.iconst 1, 1) := by decide +kernel
theorem dX6_text_94 : decode cX6_text 94 = .ok (.goto 4, 3) := by decide +kernel
theorem dX6_text_97 : decode cX6_text 97 = .ok (.iconst 0, 1) := by decide +kernel
theorem dX6_text_98 : decode cX6_text 98 = .ok (.bipush 6, 2) := by decide +kernel
theorem dX6_text_100 : decode cX6_text 100 = .ok (.invokevirtual 106, 3) := by decide +kernel
theorem dX6_text_103 : decode cX6_text 103 = .ok (.aload_n 0, 1) := by decide +kernel
theorem dX6_text_104 : decode cX6_text 104 = .ok (.iconst 0, 1) := by decide +kernel
theorem dX6_text_105 : decode cX6_text 105 = .ok (.putfield 68, 3) := by decide +kernel
theorem dX6_text_108 : decode cX6_text 108 = .ok (.aload_n 0, 1) := by decide +kernel
theorem dX6_text_109 : decode cX6_text 109 = .ok (.getfield 72, 3) := by decide +kernel
theorem dX6_text_112 : decode cX6_text 112 = .ok (.ifCond .le 11, 3) := by decide +kernel
theorem dX6_text_115 : decode cX6_text 115 = .ok (.bipush (-10), 2) := by decide +kernel
theorem dX6_text_117 : decode cX6_text 117 = .ok (.aload_n 0, 1) := by decide +kernel
theorem dX6_text_118 : decode cX6_text 118 = .ok (.getfield 78, 3) := by decide +kernel
theorem dX6_text_121 : decode cX6_text 121 = .ok (.isub, 1) := by decide +kernel
theorem dX6_text_122 : decode cX6_text 122 = .ok (.ireturn, 1) := by decide +kernel
theorem dX6_text_123 : decode cX6_text 123 = .ok (.iconst 0, 1) := by decide +kernel
theorem dX6_text_124 : decode cX6_text 124 = .ok (.istore_n 2, 1) := by decide +kernel
theorem dX6_text_125 : decode cX6_text 125 = .ok (.iload_n 2, 1) := by decide +kernel
theorem dX6_text_126 : decode cX6_text 126 = .ok (.bipush 35, 2) := by decide +kernel
theorem dX6_text_128 : decode cX6_text 128 = .ok (.if_icmp .ge 21, 3) := by decide +kernel
theorem dX6_text_131 : decode cX6_text 131 = .ok (.aload_n 0, 1) := by decide +kernel
theorem dX6_text_132 : decode cX6_text 132 = .ok (.getfield 7, 3) := by decide +kernel
theorem dX6_text_135 : decode cX6_text 135 = .ok (.iload_n 2, 1) := by decide +kernel
theorem dX6_text_136 : decode cX6_text 136 = .ok (.aload_n 0, 1) := by decide +kernel
theorem dX6_text_137 : decode cX6_text 137 = .ok (.getfield 20, 3) := by decide +kernel
theorem dX6_text_140 : decode cX6_text 140 = .ok (.iload_n 2, 1) := by decide +kernel
theorem dX6_text_141 : decode cX6_text 141 = .ok (.iaload, 1) := by decide +kernel
theorem dX6_text_142 : decode cX6_text 142 = .ok (.iastore, 1) := by decide +kernel
theorem dX6_text_143 : decode cX6_text 143 = .ok (.iinc 2 1, 3) := by decide +kernel
theorem dX6_text_146 : decode cX6_text 146 = .ok (.goto (-21), 3) := by decide +kernel
theorem dX6_text_149 : decode cX6_text 149 = .ok (.aload_n 0, 1) := by decide +kernel
theorem dX6_text_150 : decode cX6_text 150 = .ok (.getfield 16, 3) := by decide +kernel
theorem dX6_text_153 : decode cX6_text 153 = .ok (.iconst 0, 1) := by decide +kernel
theorem dX6_text_154 : decode cX6_text 154 = .ok (.iconst 0, 1) := by decide +kernel
theorem dX6_text_155 : decode cX6_text 155 = .ok (.bastore, 1) := by decide +kernel
theorem dX6_text_156 : decode cX6_text 156 = .ok (.aload_n 0, 1) := by decide +kernel
theorem dX6_text_157 : decode cX6_text 157 = .ok (.getfield 16, 3) := by decide +kernel
theorem dX6_text_160 : decode cX6_text 160 = .ok (.iconst 1, 1) := by decide +kernel
theorem dX6_text_161 : decode cX6_text 161 = .ok (.iconst 0, 1) := by decide +kernel
theorem dX6_text_162 : decode cX6_text 162 = .ok (.bastore, 1) := by decide +kernel
theorem dX6_text_163 : decode cX6_text 163 = .ok (.iload_n 1, 1) := by decide +kernel
theorem dX6_text_164 : decode cX6_text 164 = .ok (.ireturn, 1) := by decide +kernel
theorem dX6_fault_0 : decode cX6_fault 0 = .ok (.aload_n 0, 1) := by decide +kernel
theorem dX6_fault_1 : decode cX6_fault 1 = .ok (.getfield 72, 3) := by decide +kernel
theorem dX6_fault_4 : decode cX6_fault 4 = .ok (.ireturn, 1) := by decide +kernel
theorem dX6_isTable_0 : decode cX6_isTable 0 = .ok (.iload_n 1, 1) := by decide +kernel
theorem dX6_isTable_1 : decode cX6_isTable 1 = .ok (.i2l, 1) := by decide +kernel
theorem dX6_isTable_2 : decode cX6_isTable 2 = .ok (.lconst 0, 1) := by decide +kernel
theorem dX6_isTable_3 : decode cX6_isTable 3 = .ok (.lconst 1, 1) := by decide +kernel
theorem dX6_isTable_4 : decode cX6_isTable 4 = .ok (.invokestatic 64, 3) := by decide +kernel
theorem dX6_isTable_7 : decode cX6_isTable 7 = .ok (.ireturn, 1) := by decide +kernel
theorem dX6_isPlace_0 : decode cX6_isPlace 0 = .ok (.iload_n 1, 1) := by decide +kernel
theorem dX6_isPlace_1 : decode cX6_isPlace 1 = .ok (.i2l, 1) := by decide +kernel
theorem dX6_isPlace_2 : decode cX6_isPlace 2 = .ok (.lconst 0, 1) := by decide +kernel
theorem dX6_isPlace_3 : decode cX6_isPlace 3 = .ok (.aload_n 0, 1) := by decide +kernel
theorem dX6_isPlace_4 : decode cX6_isPlace 4 = .ok (.getfield 7, 3) := by decide +kernel
theorem dX6_isPlace_7 : decode cX6_isPlace 7 = .ok (.iconst 1, 1) := by decide +kernel
theorem dX6_isPlace_8 : decode cX6_isPlace 8 = .ok (.iaload, 1) := by decide +kernel
theorem dX6_isPlace_9 : decode cX6_isPlace 9 = .ok (.iconst 1, 1) := by decide +kernel
theorem dX6_isPlace_10 : decode cX6_isPlace 10 = .ok (.isub, 1) := by decide +kernel
theorem dX6_isPlace_11 : decode cX6_isPlace 11 = .ok (.i2l, 1) := by decide +kernel
theorem dX6_isPlace_12 : decode cX6_isPlace 12 = .ok (.invokestatic 64, 3) := by decide +kernel
theorem dX6_isPlace_15 : decode cX6_isPlace 15 = .ok (.ifCond .eq 25, 3) := by decide +kernel
theorem dX6_isPlace_18 : decode cX6_isPlace 18 = .ok (.iload_n 2, 1) := by decide +kernel
theorem dX6_isPlace_19 : decode cX6_isPlace 19 = .ok (.i2l, 1) := by decide +kernel
theorem dX6_isPlace_20 : decode cX6_isPlace 20 = .ok (.lconst 0, 1) := by decide +kernel
theorem dX6_isPlace_21 : decode cX6_isPlace 21 = .ok (.aload_n 0, 1) := by decide +kernel
theorem dX6_isPlace_22 : decode cX6_isPlace 22 = .ok (.getfield 7, 3) := by decide +kernel
theorem dX6_isPlace_25 : decode cX6_isPlace 25 = .ok (.iconst 2, 1) := by decide +kernel
theorem dX6_isPlace_26 : decode cX6_isPlace 26 = .ok (.iaload, 1) := by decide +kernel
theorem dX6_isPlace_27 : decode cX6_isPlace 27 = .ok (.iconst 1, 1) := by decide +kernel
end
section
theorem dX6_isPlace_28 : decode cX6_isPlace 28 = .ok (.isub, 1) := by decide +kernel
theorem dX6_isPlace_29 : decode cX6_isPlace 29 = .ok (.i2l, 1) := by decide +kernel
theorem dX6_isPlace_30 : decode cX6_isPlace 30 = .ok (.invokestatic 64, 3) := by decide +kernel
theorem dX6_isPlace_33 : decode cX6_isPlace 33 = .ok (.ifCond .eq 7, 3) := by decide +kernel
theorem dX6_isPlace_36 : decode cX6_isPlace 36 = .ok (.iconst 1, 1) := by decide +kernel
theorem dX6_isPlace_37 : decode cX6_isPlace 37 = .ok (.goto 4, 3) := by decide +kernel
theorem dX6_isPlace_40 : decode cX6_isPlace 40 = .ok (.iconst 0, 1) := by decide +kernel
theorem dX6_isPlace_41 : decode cX6_isPlace 41 = .ok (.ireturn, 1) := by decide +kernel
theorem dX6_isX_0 : decode cX6_isX 0 = .ok (.iload_n 1, 1) := by decide +kernel
theorem dX6_isX_1 : decode cX6_isX 1 = .ok (.i2l, 1) := by decide +kernel
theorem dX6_isX_2 : decode cX6_isX 2 = .ok (.lconst 0, 1) := by decide +kernel
theorem dX6_isX_3 : decode cX6_isX 3 = .ok (.aload_n 0, 1) := by decide +kernel
theorem dX6_isX_4 : decode cX6_isX 4 = .ok (.getfield 7, 3) := by decide +kernel
theorem dX6_isX_7 : decode cX6_isX 7 = .ok (.iconst 0, 1) := by decide +kernel
theorem dX6_isX_8 : decode cX6_isX 8 = .ok (.iaload, 1) := by decide +kernel
theorem dX6_isX_9 : decode cX6_isX 9 = .ok (.i2l, 1) := by decide +kernel
theorem dX6_isX_10 : decode cX6_isX 10 = .ok (.invokestatic 64, 3) := by decide +kernel
theorem dX6_isX_13 : decode cX6_isX 13 = .ok (.ireturn, 1) := by decide +kernel
theorem dX6_isPart_0 : decode cX6_isPart 0 = .ok (.iload_n 0, 1) := by decide +kernel
theorem dX6_isPart_1 : decode cX6_isPart 1 = .ok (.i2l, 1) := by decide +kernel
theorem dX6_isPart_2 : decode cX6_isPart 2 = .ok (.lconst 0, 1) := by decide +kernel
theorem dX6_isPart_3 : decode cX6_isPart 3 = .ok (.lconst 1, 1) := by decide +kernel
theorem dX6_isPart_4 : decode cX6_isPart 4 = .ok (.invokestatic 64, 3) := by decide +kernel
theorem dX6_isPart_7 : decode cX6_isPart 7 = .ok (.ireturn, 1) := by decide +kernel
theorem dX6_of_0 : decode cX6_of 0 = .ok (.aload_n 0, 1) := by decide +kernel
theorem dX6_of_1 : decode cX6_of 1 = .ok (.getfield 7, 3) := by decide +kernel
theorem dX6_of_4 : decode cX6_of 4 = .ok (.iconst 3, 1) := by decide +kernel
theorem dX6_of_5 : decode cX6_of 5 = .ok (.bipush 16, 2) := by decide +kernel
theorem dX6_of_7 : decode cX6_of 7 = .ok (.iload_n 1, 1) := by decide +kernel
theorem dX6_of_8 : decode cX6_of 8 = .ok (.imul, 1) := by decide +kernel
theorem dX6_of_9 : decode cX6_of 9 = .ok (.iadd, 1) := by decide +kernel
theorem dX6_of_10 : decode cX6_of 10 = .ok (.iconst 4, 1) := by decide +kernel
theorem dX6_of_11 : decode cX6_of 11 = .ok (.iload_n 2, 1) := by decide +kernel
theorem dX6_of_12 : decode cX6_of 12 = .ok (.imul, 1) := by decide +kernel
theorem dX6_of_13 : decode cX6_of 13 = .ok (.iadd, 1) := by decide +kernel
theorem dX6_of_14 : decode cX6_of 14 = .ok (.iload_n 3, 1) := by decide +kernel
theorem dX6_of_15 : decode cX6_of 15 = .ok (.iadd, 1) := by decide +kernel
theorem dX6_of_16 : decode cX6_of 16 = .ok (.iaload, 1) := by decide +kernel
theorem dX6_of_17 : decode cX6_of 17 = .ok (.ireturn, 1) := by decide +kernel
theorem dX6_becomes_0 : decode cX6_becomes 0 = .ok (.aload_n 0, 1) := by decide +kernel
theorem dX6_becomes_1 : decode cX6_becomes 1 = .ok (.getfield 7, 3) := by decide +kernel
theorem dX6_becomes_4 : decode cX6_becomes 4 = .ok (.iconst 3, 1) := by decide +kernel
theorem dX6_becomes_5 : decode cX6_becomes 5 = .ok (.bipush 16, 2) := by decide +kernel
theorem dX6_becomes_7 : decode cX6_becomes 7 = .ok (.iload_n 1, 1) := by decide +kernel
theorem dX6_becomes_8 : decode cX6_becomes 8 = .ok (.imul, 1) := by decide +kernel
theorem dX6_becomes_9 : decode cX6_becomes 9 = .ok (.iadd, 1) := by decide +kernel
theorem dX6_becomes_10 : decode cX6_becomes 10 = .ok (.iconst 4, 1) := by decide +kernel
theorem dX6_becomes_11 : decode cX6_becomes 11 = .ok (.iload_n 2, 1) := by decide +kernel
theorem dX6_becomes_12 : decode cX6_becomes 12 = .ok (.imul, 1) := by decide +kernel
theorem dX6_becomes_13 : decode cX6_becomes 13 = .ok (.iadd, 1) := by decide +kernel
theorem dX6_becomes_14 : decode cX6_becomes 14 = .ok (.iload_n 3, 1) := by decide +kernel
theorem dX6_becomes_15 : decode cX6_becomes 15 = .ok (.iadd, 1) := by decide +kernel
theorem dX6_becomes_16 : decode cX6_becomes 16 = .ok (.iload 4, 2) := by decide +kernel
theorem dX6_becomes_18 : decode cX6_becomes 18 = .ok (.iastore, 1) := by decide +kernel
theorem dX6_becomes_19 : decode cX6_becomes 19 = .ok (.return_, 1) := by decide +kernel
theorem dX6_rowsNow_0 : decode cX6_rowsNow 0 = .ok (.aload_n 0, 1) := by decide +kernel
theorem dX6_rowsNow_1 : decode cX6_rowsNow 1 = .ok (.getfield 147, 3) := by decide +kernel
theorem dX6_rowsNow_4 : decode cX6_rowsNow 4 = .ok (.ifCond .eq 12, 3) := by decide +kernel
theorem dX6_rowsNow_7 : decode cX6_rowsNow 7 = .ok (.aload_n 0, 1) := by decide +kernel
theorem dX6_rowsNow_8 : decode cX6_rowsNow 8 = .ok (.getfield 7, 3) := by decide +kernel
theorem dX6_rowsNow_11 : decode cX6_rowsNow 11 = .ok (.iconst 2, 1) := by decide +kernel
theorem dX6_rowsNow_12 : decode cX6_rowsNow 12 = .ok (.iaload, 1) := by decide +kernel
theorem dX6_rowsNow_13 : decode cX6_rowsNow 13 = .ok (.goto 9, 3) := by decide +kernel
theorem dX6_rowsNow_16 : decode cX6_rowsNow 16 = .ok (.aload_n 0, 1) := by decide +kernel
theorem dX6_rowsNow_17 : decode cX6_rowsNow 17 = .ok (.getfield 7, 3) := by decide +kernel
theorem dX6_rowsNow_20 : decode cX6_rowsNow 20 = .ok (.iconst 1, 1) := by decide +kernel
theorem dX6_rowsNow_21 : decode cX6_rowsNow 21 = .ok (.iaload, 1) := by decide +kernel
theorem dX6_rowsNow_22 : decode cX6_rowsNow 22 = .ok (.ireturn, 1) := by decide +kernel
theorem dX6_columnsNow_0 : decode cX6_columnsNow 0 = .ok (.aload_n 0, 1) := by decide +kernel
theorem dX6_columnsNow_1 : decode cX6_columnsNow 1 = .ok (.getfield 147, 3) := by decide +kernel
theorem dX6_columnsNow_4 : decode cX6_columnsNow 4 = .ok (.ifCond .eq 12, 3) := by decide +kernel
theorem dX6_columnsNow_7 : decode cX6_columnsNow 7 = .ok (.aload_n 0, 1) := by decide +kernel
theorem dX6_columnsNow_8 : decode cX6_columnsNow 8 = .ok (.getfield 7, 3) := by decide +kernel
theorem dX6_columnsNow_11 : decode cX6_columnsNow 11 = .ok (.iconst 1, 1) := by decide +kernel
theorem dX6_columnsNow_12 : decode cX6_columnsNow 12 = .ok (.iaload, 1) := by decide +kernel
theorem dX6_columnsNow_13 : decode cX6_columnsNow 13 = .ok (.goto 9, 3) := by decide +kernel
theorem dX6_columnsNow_16 : decode cX6_columnsNow 16 = .ok (.aload_n 0, 1) := by decide +kernel
theorem dX6_columnsNow_17 : decode cX6_columnsNow 17 = .ok (.getfield 7, 3) := by decide +kernel
theorem dX6_columnsNow_20 : decode cX6_columnsNow 20 = .ok (.iconst 2, 1) := by decide +kernel
theorem dX6_columnsNow_21 : decode cX6_columnsNow 21 = .ok (.iaload, 1) := by decide +kernel
theorem dX6_columnsNow_22 : decode cX6_columnsNow 22 = .ok (.ireturn, 1) := by decide +kernel
theorem dX6_entry_0 : decode cX6_entry 0 = .ok (.aload_n 0, 1) := by decide +kernel
theorem dX6_entry_1 : decode cX6_entry 1 = .ok (.getfield 147, 3) := by decide +kernel
theorem dX6_entry_4 : decode cX6_entry 4 = .ok (.ifCond .eq 13, 3) := by decide +kernel
theorem dX6_entry_7 : decode cX6_entry 7 = .ok (.aload_n 0, 1) := by decide +kernel
theorem dX6_entry_8 : decode cX6_entry 8 = .ok (.iload_n 1, 1) := by decide +kernel
theorem dX6_entry_9 : decode cX6_entry 9 = .ok (.iload_n 3, 1) := by decide +kernel
theorem dX6_entry_10 : decode cX6_entry 10 = .ok (.iload_n 2, 1) := by decide +kernel
theorem dX6_entry_11 : decode cX6_entry 11 = .ok (.invokevirtual 150, 3) := by decide +kernel
theorem dX6_entry_14 : decode cX6_entry 14 = .ok (.goto 10, 3) := by decide +kernel
theorem dX6_entry_17 : decode cX6_entry 17 = .ok (.aload_n 0, 1) := by decide +kernel
theorem dX6_entry_18 : decode cX6_entry 18 = .ok (.iload_n 1, 1) := by decide +kernel
theorem dX6_entry_19 : decode cX6_entry 19 = .ok (.iload_n 2, 1) := by decide +kernel
theorem dX6_entry_20 : decode cX6_entry 20 = .ok (.iload_n 3, 1) := by decide +kernel
theorem dX6_entry_21 : decode cX6_entry 21 = .ok (.invokevirtual 150, 3) := by decide +kernel
theorem dX6_entry_24 : decode cX6_entry 24 = .ok (.ireturn, 1) := by decide +kernel
theorem dX6_modulo_0 : decode cX6_modulo 0 = .ok (.iload_n 1, 1) := by decide +kernel
theorem dX6_modulo_1 : decode cX6_modulo 1 = .ok (.aload_n 0, 1) := by decide +kernel
theorem dX6_modulo_2 : decode cX6_modulo 2 = .ok (.getfield 7, 3) := by decide +kernel
theorem dX6_modulo_5 : decode cX6_modulo 5 = .ok (.iconst 0, 1) := by decide +kernel
theorem dX6_modulo_6 : decode cX6_modulo 6 = .ok (.iaload, 1) := by decide +kernel
theorem dX6_modulo_7 : decode cX6_modulo 7 = .ok (.irem, 1) := by decide +kernel
theorem dX6_modulo_8 : decode cX6_modulo 8 = .ok (.aload_n 0, 1) := by decide +kernel
theorem dX6_modulo_9 : decode cX6_modulo 9 = .ok (.getfield 7, 3) := by decide +kernel
theorem dX6_modulo_12 : decode cX6_modulo 12 = .ok (.iconst 0, 1) := by decide +kernel
theorem dX6_modulo_13 : decode cX6_modulo 13 = .ok (.iaload, 1) := by decide +kernel
theorem dX6_modulo_14 : decode cX6_modulo 14 = .ok (.iadd, 1) := by decide +kernel
theorem dX6_modulo_15 : decode cX6_modulo 15 = .ok (.aload_n 0, 1) := by decide +kernel
theorem dX6_modulo_16 : decode cX6_modulo 16 = .ok (.getfield 7, 3) := by decide +kernel
theorem dX6_modulo_19 : decode cX6_modulo 19 = .ok (.iconst 0, 1) := by decide +kernel
theorem dX6_modulo_20 : decode cX6_modulo 20 = .ok (.iaload, 1) := by decide +kernel
theorem dX6_modulo_21 : decode cX6_modulo 21 = .ok (.irem, 1) := by decide +kernel
theorem dX6_modulo_22 : decode cX6_modulo 22 = .ok (.ireturn, 1) := by decide +kernel
theorem dX6_startsLarge_0 : decode cX6_startsLarge 0 = .ok (.aload_n 0, 1) := by decide +kernel
theorem dX6_startsLarge_1 : decode cX6_startsLarge 1 = .ok (.iload_n 1, 1) := by decide +kernel
theorem dX6_startsLarge_2 : decode cX6_startsLarge 2 = .ok (.aload_n 0, 1) := by decide +kernel
theorem dX6_startsLarge_3 : decode cX6_startsLarge 3 = .ok (.invokevirtual 154, 3) := by decide +kernel
theorem dX6_startsLarge_6 : decode cX6_startsLarge 6 = .ok (.imul, 1) := by decide +kernel
theorem dX6_startsLarge_7 : decode cX6_startsLarge 7 = .ok (.putfield 157, 3) := by decide +kernel
theorem dX6_startsLarge_10 : decode cX6_startsLarge 10 = .ok (.aload_n 0, 1) := by decide +kernel
theorem dX6_startsLarge_11 : decode cX6_startsLarge 11 = .ok (.iload_n 2, 1) := by decide +kernel
theorem dX6_startsLarge_12 : decode cX6_startsLarge 12 = .ok (.aload_n 0, 1) := by decide +kernel
theorem dX6_startsLarge_13 : decode cX6_startsLarge 13 = .ok (.invokevirtual 160, 3) := by decide +kernel
theorem dX6_startsLarge_16 : decode cX6_startsLarge 16 = .ok (.imul, 1) := by decide +kernel
theorem dX6_startsLarge_17 : decode cX6_startsLarge 17 = .ok (.putfield 163, 3) := by decide +kernel
theorem dX6_startsLarge_20 : decode cX6_startsLarge 20 = .ok (.iconst 0, 1) := by decide +kernel
theorem dX6_startsLarge_21 : decode cX6_startsLarge 21 = .ok (.istore_n 3, 1) := by decide +kernel
theorem dX6_startsLarge_22 : decode cX6_startsLarge 22 = .ok (.iload_n 3, 1) := by decide +kernel
theorem dX6_startsLarge_23 : decode cX6_startsLarge 23 = .ok (.sipush 504, 3) := by decide +kernel
theorem dX6_startsLarge_26 : decode cX6_startsLarge 26 = .ok (.if_icmp .ge 16, 3) := by decide +kernel
theorem dX6_startsLarge_29 : decode cX6_startsLarge 29 = .ok (.aload_n 0, 1) := by decide +kernel
theorem dX6_startsLarge_30 : decode cX6_startsLarge 30 = .ok (.getfield 26, 3) := by decide +kernel
theorem dX6_startsLarge_33 : decode cX6_startsLarge 33 = .ok (.iload_n 3, 1) := by decide +kernel
theorem dX6_startsLarge_34 : decode cX6_startsLarge 34 = .ok (.iconst 0, 1) := by decide +kernel
theorem dX6_startsLarge_35 : decode cX6_startsLarge 35 = .ok (.iastore, 1) := by decide +kernel
theorem dX6_startsLarge_36 : decode cX6_startsLarge 36 = .ok (.iinc 3 1, 3) := by decide +kernel
theorem dX6_startsLarge_39 : decode cX6_startsLarge 39 = .ok (.goto (-17), 3) := by decide +kernel
theorem dX6_startsLarge_42 : decode cX6_startsLarge 42 = .ok (.return_, 1) := by decide +kernel
theorem dX6_adds_0 : decode cX6_adds 0 = .ok (.iconst 0, 1) := by decide +kernel
theorem dX6_adds_1 : decode cX6_adds 1 = .ok (.istore 5, 2) := by decide +kernel
theorem dX6_adds_3 : decode cX6_adds 3 = .ok (.iload 5, 2) := by decide +kernel
theorem dX6_adds_5 : decode cX6_adds 5 = .ok (.aload_n 0, 1) := by decide +kernel
theorem dX6_adds_6 : decode cX6_adds 6 = .ok (.invokevirtual 154, 3) := by decide +kernel
theorem dX6_adds_9 : decode cX6_adds 9 = .ok (.if_icmp .ge 94, 3) := by decide +kernel
theorem dX6_adds_12 : decode cX6_adds 12 = .ok (.iconst 0, 1) := by decide +kernel
theorem dX6_adds_13 : decode cX6_adds 13 = .ok (.istore 6, 2) := by decide +kernel
theorem dX6_adds_15 : decode cX6_adds 15 = .ok (.iload 6, 2) := by decide +kernel
theorem dX6_adds_17 : decode cX6_adds 17 = .ok (.aload_n 0, 1) := by decide +kernel
theorem dX6_adds_18 : decode cX6_adds 18 = .ok (.invokevirtual 160, 3) := by decide +kernel
theorem dX6_adds_21 : decode cX6_adds 21 = .ok (.if_icmp .ge 76, 3) := by decide +kernel
theorem dX6_adds_24 : decode cX6_adds 24 = .ok (.bipush 21, 2) := by decide +kernel
theorem dX6_adds_26 : decode cX6_adds 26 = .ok (.iload_n 1, 1) := by decide +kernel
theorem dX6_adds_27 : decode cX6_adds 27 = .ok (.aload_n 0, 1) := by decide +kernel
theorem dX6_adds_28 : decode cX6_adds 28 = .ok (.invokevirtual 154, 3) := by decide +kernel
theorem dX6_adds_31 : decode cX6_adds 31 = .ok (.imul, 1) := by decide +kernel
theorem dX6_adds_32 : decode cX6_adds 32 = .ok (.iload 5, 2) := by decide +kernel
theorem dX6_adds_34 : decode cX6_adds 34 = .ok (.iadd, 1) := by decide +kernel
theorem dX6_adds_35 : decode cX6_adds 35 = .ok (.imul, 1) := by decide +kernel
theorem dX6_adds_36 : decode cX6_adds 36 = .ok (.iload_n 2, 1) := by decide +kernel
theorem dX6_adds_37 : decode cX6_adds 37 = .ok (.aload_n 0, 1) := by decide +kernel
theorem dX6_adds_38 : decode cX6_adds 38 = .ok (.invokevirtual 160, 3) := by decide +kernel
theorem dX6_adds_41 : decode cX6_adds 41 = .ok (.imul, 1) := by decide +kernel
theorem dX6_adds_42 : decode cX6_adds 42 = .ok (.iadd, 1) := by decide +kernel
theorem dX6_adds_43 : decode cX6_adds 43 = .ok (.iload 6, 2) := by decide +kernel
theorem dX6_adds_45 : decode cX6_adds 45 = .ok (.iadd, 1) := by decide +kernel
theorem dX6_adds_46 : decode cX6_adds 46 = .ok (.istore 7, 2) := by decide +kernel
theorem dX6_adds_48 : decode cX6_adds 48 = .ok (.aload_n 0, 1) := by decide +kernel
theorem dX6_adds_49 : decode cX6_adds 49 = .ok (.getfield 26, 3) := by decide +kernel
theorem dX6_adds_52 : decode cX6_adds 52 = .ok (.iload 7, 2) := by decide +kernel
theorem dX6_adds_54 : decode cX6_adds 54 = .ok (.aload_n 0, 1) := by decide +kernel
theorem dX6_adds_55 : decode cX6_adds 55 = .ok (.aload_n 0, 1) := by decide +kernel
theorem dX6_adds_56 : decode cX6_adds 56 = .ok (.getfield 26, 3) := by decide +kernel
theorem dX6_adds_59 : decode cX6_adds 59 = .ok (.iload 7, 2) := by decide +kernel
theorem dX6_adds_61 : decode cX6_adds 61 = .ok (.iaload, 1) := by decide +kernel
theorem dX6_adds_62 : decode cX6_adds 62 = .ok (.iload_n 3, 1) := by decide +kernel
theorem dX6_adds_63 : decode cX6_adds 63 = .ok (.aload_n 0, 1) := by decide +kernel
theorem dX6_adds_64 : decode cX6_adds 64 = .ok (.iconst 0, 1) := by decide +kernel
theorem dX6_adds_65 : decode cX6_adds 65 = .ok (.iload 5, 2) := by decide +kernel
theorem dX6_adds_67 : decode cX6_adds 67 = .ok (.iload 6, 2) := by decide +kernel
theorem dX6_adds_69 : decode cX6_adds 69 = .ok (.invokevirtual 166, 3) := by decide +kernel
theorem dX6_adds_72 : decode cX6_adds 72 = .ok (.imul, 1) := by decide +kernel
theorem dX6_adds_73 : decode cX6_adds 73 = .ok (.iadd, 1) := by decide +kernel
theorem dX6_adds_74 : decode cX6_adds 74 = .ok (.iload 4, 2) := by decide +kernel
theorem dX6_adds_76 : decode cX6_adds 76 = .ok (.aload_n 0, 1) := by decide +kernel
theorem dX6_adds_77 : decode cX6_adds 77 = .ok (.iconst 1, 1) := by decide +kernel
theorem dX6_adds_78 : decode cX6_adds 78 = .ok (.iload 5, 2) := by decide +kernel
theorem dX6_adds_80 : decode cX6_adds 80 = .ok (.iload 6, 2) := by decide +kernel
theorem dX6_adds_82 : decode cX6_adds 82 = .ok (.invokevirtual 166, 3) := by decide +kernel
theorem dX6_adds_85 : decode cX6_adds 85 = .ok (.imul, 1) := by decide +kernel
theorem dX6_adds_86 : decode cX6_adds 86 = .ok (.iadd, 1) := by decide +kernel
theorem dX6_adds_87 : decode cX6_adds 87 = .ok (.invokevirtual 169, 3) := by decide +kernel
theorem dX6_adds_90 : decode cX6_adds 90 = .ok (.iastore, 1) := by decide +kernel
theorem dX6_adds_91 : decode cX6_adds 91 = .ok (.iinc 6 1, 3) := by decide +kernel
theorem dX6_adds_94 : decode cX6_adds 94 = .ok (.goto (-79), 3) := by decide +kernel
theorem dX6_adds_97 : decode cX6_adds 97 = .ok (.iinc 5 1, 3) := by decide +kernel
theorem dX6_adds_100 : decode cX6_adds 100 = .ok (.goto (-97), 3) := by decide +kernel
theorem dX6_adds_103 : decode cX6_adds 103 = .ok (.return_, 1) := by decide +kernel
theorem dX6_inverse_0 : decode cX6_inverse 0 = .ok (.iconst 1, 1) := by decide +kernel
theorem dX6_inverse_1 : decode cX6_inverse 1 = .ok (.istore_n 2, 1) := by decide +kernel
theorem dX6_inverse_2 : decode cX6_inverse 2 = .ok (.iload_n 2, 1) := by decide +kernel
theorem dX6_inverse_3 : decode cX6_inverse 3 = .ok (.iload_n 1, 1) := by decide +kernel
theorem dX6_inverse_4 : decode cX6_inverse 4 = .ok (.imul, 1) := by decide +kernel
theorem dX6_inverse_5 : decode cX6_inverse 5 = .ok (.aload_n 0, 1) := by decide +kernel
theorem dX6_inverse_6 : decode cX6_inverse 6 = .ok (.getfield 7, 3) := by decide +kernel
theorem dX6_inverse_9 : decode cX6_inverse 9 = .ok (.iconst 0, 1) := by decide +kernel
theorem dX6_inverse_10 : decode cX6_inverse 10 = .ok (.iaload, 1) := by decide +kernel
theorem dX6_inverse_11 : decode cX6_inverse 11 = .ok (.irem, 1) := by decide +kernel
theorem dX6_inverse_12 : decode cX6_inverse 12 = .ok (.iconst 1, 1) := by decide +kernel
theorem dX6_inverse_13 : decode cX6_inverse 13 = .ok (.if_icmp .eq 9, 3) := by decide +kernel
theorem dX6_inverse_16 : decode cX6_inverse 16 = .ok (.iinc 2 1, 3) := by decide +kernel
theorem dX6_inverse_19 : decode cX6_inverse 19 = .ok (.goto (-17), 3) := by decide +kernel
theorem dX6_inverse_22 : decode cX6_inverse 22 = .ok (.iload_n 2, 1) := by decide +kernel
theorem dX6_inverse_23 : decode cX6_inverse 23 = .ok (.ireturn, 1) := by decide +kernel
theorem dX6_largeSwaps_0 : decode cX6_largeSwaps 0 = .ok (.iconst 0, 1) := by decide +kernel
theorem dX6_largeSwaps_1 : decode cX6_largeSwaps 1 = .ok (.istore_n 3, 1) := by decide +kernel
theorem dX6_largeSwaps_2 : decode cX6_largeSwaps 2 = .ok (.iload_n 3, 1) := by decide +kernel
theorem dX6_largeSwaps_3 : decode cX6_largeSwaps 3 = .ok (.bipush 21, 2) := by decide +kernel
theorem dX6_largeSwaps_5 : decode cX6_largeSwaps 5 = .ok (.if_icmp .ge 57, 3) := by decide +kernel
theorem dX6_largeSwaps_8 : decode cX6_largeSwaps 8 = .ok (.aload_n 0, 1) := by decide +kernel
theorem dX6_largeSwaps_9 : decode cX6_largeSwaps 9 = .ok (.getfield 26, 3) := by decide +kernel
theorem dX6_largeSwaps_12 : decode cX6_largeSwaps 12 = .ok (.bipush 21, 2) := by decide +kernel
theorem dX6_largeSwaps_14 : decode cX6_largeSwaps 14 = .ok (.iload_n 1, 1) := by decide +kernel
theorem dX6_largeSwaps_15 : decode cX6_largeSwaps 15 = .ok (.imul, 1) := by decide +kernel
theorem dX6_largeSwaps_16 : decode cX6_largeSwaps 16 = .ok (.iload_n 3, 1) := by decide +kernel
theorem dX6_largeSwaps_17 : decode cX6_largeSwaps 17 = .ok (.iadd, 1) := by decide +kernel
theorem dX6_largeSwaps_18 : decode cX6_largeSwaps 18 = .ok (.iaload, 1) := by decide +kernel
theorem dX6_largeSwaps_19 : decode cX6_largeSwaps 19 = .ok (.istore 4, 2) := by decide +kernel
theorem dX6_largeSwaps_21 : decode cX6_largeSwaps 21 = .ok (.aload_n 0, 1) := by decide +kernel
theorem dX6_largeSwaps_22 : decode cX6_largeSwaps 22 = .ok (.getfield 26, 3) := by decide +kernel
theorem dX6_largeSwaps_25 : decode cX6_largeSwaps 25 = .ok (.bipush 21, 2) := by decide +kernel
theorem dX6_largeSwaps_27 : decode cX6_largeSwaps 27 = .ok (.iload_n 1, 1) := by decide +kernel
theorem dX6_largeSwaps_28 : decode cX6_largeSwaps 28 = .ok (.imul, 1) := by decide +kernel
theorem dX6_largeSwaps_29 : decode cX6_largeSwaps 29 = .ok (.iload_n 3, 1) := by decide +kernel
theorem dX6_largeSwaps_30 : decode cX6_largeSwaps 30 = .ok (.iadd, 1) := by decide +kernel
theorem dX6_largeSwaps_31 : decode cX6_largeSwaps 31 = .ok (.aload_n 0, 1) := by decide +kernel
theorem dX6_largeSwaps_32 : decode cX6_largeSwaps 32 = .ok (.getfield 26, 3) := by decide +kernel
theorem dX6_largeSwaps_35 : decode cX6_largeSwaps 35 = .ok (.bipush 21, 2) := by decide +kernel
theorem dX6_largeSwaps_37 : decode cX6_largeSwaps 37 = .ok (.iload_n 2, 1) := by decide +kernel
theorem dX6_largeSwaps_38 : decode cX6_largeSwaps 38 = .ok (.imul, 1) := by decide +kernel
theorem dX6_largeSwaps_39 : decode cX6_largeSwaps 39 = .ok (.iload_n 3, 1) := by decide +kernel
theorem dX6_largeSwaps_40 : decode cX6_largeSwaps 40 = .ok (.iadd, 1) := by decide +kernel
theorem dX6_largeSwaps_41 : decode cX6_largeSwaps 41 = .ok (.iaload, 1) := by decide +kernel
theorem dX6_largeSwaps_42 : decode cX6_largeSwaps 42 = .ok (.iastore, 1) := by decide +kernel
theorem dX6_largeSwaps_43 : decode cX6_largeSwaps 43 = .ok (.aload_n 0, 1) := by decide +kernel
theorem dX6_largeSwaps_44 : decode cX6_largeSwaps 44 = .ok (.getfield 26, 3) := by decide +kernel
theorem dX6_largeSwaps_47 : decode cX6_largeSwaps 47 = .ok (.bipush 21, 2) := by decide +kernel
theorem dX6_largeSwaps_49 : decode cX6_largeSwaps 49 = .ok (.iload_n 2, 1) := by decide +kernel
theorem dX6_largeSwaps_50 : decode cX6_largeSwaps 50 = .ok (.imul, 1) := by decide +kernel
theorem dX6_largeSwaps_51 : decode cX6_largeSwaps 51 = .ok (.iload_n 3, 1) := by decide +kernel
theorem dX6_largeSwaps_52 : decode cX6_largeSwaps 52 = .ok (.iadd, 1) := by decide +kernel
theorem dX6_largeSwaps_53 : decode cX6_largeSwaps 53 = .ok (.iload 4, 2) := by decide +kernel
theorem dX6_largeSwaps_55 : decode cX6_largeSwaps 55 = .ok (.iastore, 1) := by decide +kernel
theorem dX6_largeSwaps_56 : decode cX6_largeSwaps 56 = .ok (.iinc 3 1, 3) := by decide +kernel
theorem dX6_largeSwaps_59 : decode cX6_largeSwaps 59 = .ok (.goto (-57), 3) := by decide +kernel
theorem dX6_largeSwaps_62 : decode cX6_largeSwaps 62 = .ok (.return_, 1) := by decide +kernel
theorem dX6_largeLoses_0 : decode cX6_largeLoses 0 = .ok (.iconst 0, 1) := by decide +kernel
theorem dX6_largeLoses_1 : decode cX6_largeLoses 1 = .ok (.istore 4, 2) := by decide +kernel
theorem dX6_largeLoses_3 : decode cX6_largeLoses 3 = .ok (.iload 4, 2) := by decide +kernel
theorem dX6_largeLoses_5 : decode cX6_largeLoses 5 = .ok (.bipush 21, 2) := by decide +kernel
theorem dX6_largeLoses_7 : decode cX6_largeLoses 7 = .ok (.if_icmp .ge 52, 3) := by decide +kernel
theorem dX6_largeLoses_10 : decode cX6_largeLoses 10 = .ok (.aload_n 0, 1) := by decide +kernel
theorem dX6_largeLoses_11 : decode cX6_largeLoses 11 = .ok (.getfield 26, 3) := by decide +kernel
theorem dX6_largeLoses_14 : decode cX6_largeLoses 14 = .ok (.bipush 21, 2) := by decide +kernel
theorem dX6_largeLoses_16 : decode cX6_largeLoses 16 = .ok (.iload_n 1, 1) := by decide +kernel
theorem dX6_largeLoses_17 : decode cX6_largeLoses 17 = .ok (.imul, 1) := by decide +kernel
theorem dX6_largeLoses_18 : decode cX6_largeLoses 18 = .ok (.iload 4, 2) := by decide +kernel
theorem dX6_largeLoses_20 : decode cX6_largeLoses 20 = .ok (.iadd, 1) := by decide +kernel
theorem dX6_largeLoses_21 : decode cX6_largeLoses 21 = .ok (.aload_n 0, 1) := by decide +kernel
theorem dX6_largeLoses_22 : decode cX6_largeLoses 22 = .ok (.aload_n 0, 1) := by decide +kernel
theorem dX6_largeLoses_23 : decode cX6_largeLoses 23 = .ok (.getfield 26, 3) := by decide +kernel
theorem dX6_largeLoses_26 : decode cX6_largeLoses 26 = .ok (.bipush 21, 2) := by decide +kernel
theorem dX6_largeLoses_28 : decode cX6_largeLoses 28 = .ok (.iload_n 1, 1) := by decide +kernel
theorem dX6_largeLoses_29 : decode cX6_largeLoses 29 = .ok (.imul, 1) := by decide +kernel
theorem dX6_largeLoses_30 : decode cX6_largeLoses 30 = .ok (.iload 4, 2) := by decide +kernel
theorem dX6_largeLoses_32 : decode cX6_largeLoses 32 = .ok (.iadd, 1) := by decide +kernel
theorem dX6_largeLoses_33 : decode cX6_largeLoses 33 = .ok (.iaload, 1) := by decide +kernel
theorem dX6_largeLoses_34 : decode cX6_largeLoses 34 = .ok (.iload_n 3, 1) := by decide +kernel
theorem dX6_largeLoses_35 : decode cX6_largeLoses 35 = .ok (.aload_n 0, 1) := by decide +kernel
theorem dX6_largeLoses_36 : decode cX6_largeLoses 36 = .ok (.getfield 26, 3) := by decide +kernel
theorem dX6_largeLoses_39 : decode cX6_largeLoses 39 = .ok (.bipush 21, 2) := by decide +kernel
theorem dX6_largeLoses_41 : decode cX6_largeLoses 41 = .ok (.iload_n 2, 1) := by decide +kernel
theorem dX6_largeLoses_42 : decode cX6_largeLoses 42 = .ok (.imul, 1) := by decide +kernel
theorem dX6_largeLoses_43 : decode cX6_largeLoses 43 = .ok (.iload 4, 2) := by decide +kernel
theorem dX6_largeLoses_45 : decode cX6_largeLoses 45 = .ok (.iadd, 1) := by decide +kernel
theorem dX6_largeLoses_46 : decode cX6_largeLoses 46 = .ok (.iaload, 1) := by decide +kernel
theorem dX6_largeLoses_47 : decode cX6_largeLoses 47 = .ok (.imul, 1) := by decide +kernel
theorem dX6_largeLoses_48 : decode cX6_largeLoses 48 = .ok (.isub, 1) := by decide +kernel
theorem dX6_largeLoses_49 : decode cX6_largeLoses 49 = .ok (.invokevirtual 169, 3) := by decide +kernel
theorem dX6_largeLoses_52 : decode cX6_largeLoses 52 = .ok (.iastore, 1) := by decide +kernel
theorem dX6_largeLoses_53 : decode cX6_largeLoses 53 = .ok (.iinc 4 1, 3) := by decide +kernel
theorem dX6_largeLoses_56 : decode cX6_largeLoses 56 = .ok (.goto (-53), 3) := by decide +kernel
theorem dX6_largeLoses_59 : decode cX6_largeLoses 59 = .ok (.return_, 1) := by decide +kernel
theorem dX6_pivotFor_0 : decode cX6_pivotFor 0 = .ok (.bipush (-4), 2) := by decide +kernel
theorem dX6_pivotFor_2 : decode cX6_pivotFor 2 = .ok (.istore_n 3, 1) := by decide +kernel
theorem dX6_pivotFor_3 : decode cX6_pivotFor 3 = .ok (.aload_n 0, 1) := by decide +kernel
theorem dX6_pivotFor_4 : decode cX6_pivotFor 4 = .ok (.getfield 157, 3) := by decide +kernel
theorem dX6_pivotFor_7 : decode cX6_pivotFor 7 = .ok (.iconst 1, 1) := by decide +kernel
theorem dX6_pivotFor_8 : decode cX6_pivotFor 8 = .ok (.isub, 1) := by decide +kernel
theorem dX6_pivotFor_9 : decode cX6_pivotFor 9 = .ok (.istore 4, 2) := by decide +kernel
theorem dX6_pivotFor_11 : decode cX6_pivotFor 11 = .ok (.iload 4, 2) := by decide +kernel
theorem dX6_pivotFor_13 : decode cX6_pivotFor 13 = .ok (.iload_n 1, 1) := by decide +kernel
theorem dX6_pivotFor_14 : decode cX6_pivotFor 14 = .ok (.if_icmp .lt 31, 3) := by decide +kernel
theorem dX6_pivotFor_17 : decode cX6_pivotFor 17 = .ok (.aload_n 0, 1) := by decide +kernel
theorem dX6_pivotFor_18 : decode cX6_pivotFor 18 = .ok (.getfield 26, 3) := by decide +kernel
theorem dX6_pivotFor_21 : decode cX6_pivotFor 21 = .ok (.bipush 21, 2) := by decide +kernel
theorem dX6_pivotFor_23 : decode cX6_pivotFor 23 = .ok (.iload 4, 2) := by decide +kernel
theorem dX6_pivotFor_25 : decode cX6_pivotFor 25 = .ok (.imul, 1) := by decide +kernel
theorem dX6_pivotFor_26 : decode cX6_pivotFor 26 = .ok (.iload_n 2, 1) := by decide +kernel
theorem dX6_pivotFor_27 : decode cX6_pivotFor 27 = .ok (.iadd, 1) := by decide +kernel
theorem dX6_pivotFor_28 : decode cX6_pivotFor 28 = .ok (.iaload, 1) := by decide +kernel
theorem dX6_pivotFor_29 : decode cX6_pivotFor 29 = .ok (.ifCond .eq 8, 3) := by decide +kernel
theorem dX6_pivotFor_32 : decode cX6_pivotFor 32 = .ok (.iload 4, 2) := by decide +kernel
theorem dX6_pivotFor_34 : decode cX6_pivotFor 34 = .ok (.goto 4, 3) := by decide +kernel
theorem dX6_pivotFor_37 : decode cX6_pivotFor 37 = .ok (.iload_n 3, 1) := by decide +kernel
theorem dX6_pivotFor_38 : decode cX6_pivotFor 38 = .ok (.istore_n 3, 1) := by decide +kernel
theorem dX6_pivotFor_39 : decode cX6_pivotFor 39 = .ok (.iinc 4 (-1), 3) := by decide +kernel
theorem dX6_pivotFor_42 : decode cX6_pivotFor 42 = .ok (.goto (-31), 3) := by decide +kernel
theorem dX6_pivotFor_45 : decode cX6_pivotFor 45 = .ok (.iload_n 3, 1) := by decide +kernel
theorem dX6_pivotFor_46 : decode cX6_pivotFor 46 = .ok (.ireturn, 1) := by decide +kernel
theorem dX6_rankOf_0 : decode cX6_rankOf 0 = .ok (.iconst 0, 1) := by decide +kernel
theorem dX6_rankOf_1 : decode cX6_rankOf 1 = .ok (.istore_n 2, 1) := by decide +kernel
theorem dX6_rankOf_2 : decode cX6_rankOf 2 = .ok (.iconst 0, 1) := by decide +kernel
theorem dX6_rankOf_3 : decode cX6_rankOf 3 = .ok (.istore_n 3, 1) := by decide +kernel
theorem dX6_rankOf_4 : decode cX6_rankOf 4 = .ok (.iload_n 3, 1) := by decide +kernel
theorem dX6_rankOf_5 : decode cX6_rankOf 5 = .ok (.iload_n 1, 1) := by decide +kernel
theorem dX6_rankOf_6 : decode cX6_rankOf 6 = .ok (.if_icmp .ge 100, 3) := by decide +kernel
theorem dX6_rankOf_9 : decode cX6_rankOf 9 = .ok (.aload_n 0, 1) := by decide +kernel
theorem dX6_rankOf_10 : decode cX6_rankOf 10 = .ok (.iload_n 2, 1) := by decide +kernel
theorem dX6_rankOf_11 : decode cX6_rankOf 11 = .ok (.iload_n 3, 1) := by decide +kernel
theorem dX6_rankOf_12 : decode cX6_rankOf 12 = .ok (.invokevirtual 172, 3) := by decide +kernel
theorem dX6_rankOf_15 : decode cX6_rankOf 15 = .ok (.istore 4, 2) := by decide +kernel
theorem dX6_rankOf_17 : decode cX6_rankOf 17 = .ok (.iload 4, 2) := by decide +kernel
theorem dX6_rankOf_19 : decode cX6_rankOf 19 = .ok (.bipush (-4), 2) := by decide +kernel
theorem dX6_rankOf_21 : decode cX6_rankOf 21 = .ok (.if_icmp .eq 79, 3) := by decide +kernel
theorem dX6_rankOf_24 : decode cX6_rankOf 24 = .ok (.aload_n 0, 1) := by decide +kernel
theorem dX6_rankOf_25 : decode cX6_rankOf 25 = .ok (.iload 4, 2) := by decide +kernel
theorem dX6_rankOf_27 : decode cX6_rankOf 27 = .ok (.iload_n 2, 1) := by decide +kernel
theorem dX6_rankOf_28 : decode cX6_rankOf 28 = .ok (.invokevirtual 175, 3) := by decide +kernel
theorem dX6_rankOf_31 : decode cX6_rankOf 31 = .ok (.aload_n 0, 1) := by decide +kernel
theorem dX6_rankOf_32 : decode cX6_rankOf 32 = .ok (.aload_n 0, 1) := by decide +kernel
theorem dX6_rankOf_33 : decode cX6_rankOf 33 = .ok (.getfield 26, 3) := by decide +kernel
theorem dX6_rankOf_36 : decode cX6_rankOf 36 = .ok (.bipush 21, 2) := by decide +kernel
theorem dX6_rankOf_38 : decode cX6_rankOf 38 = .ok (.iload_n 2, 1) := by decide +kernel
theorem dX6_rankOf_39 : decode cX6_rankOf 39 = .ok (.imul, 1) := by decide +kernel
theorem dX6_rankOf_40 : decode cX6_rankOf 40 = .ok (.iload_n 3, 1) := by decide +kernel
theorem dX6_rankOf_41 : decode cX6_rankOf 41 = .ok (.iadd, 1) := by decide +kernel
theorem dX6_rankOf_42 : decode cX6_rankOf 42 = .ok (.iaload, 1) := by decide +kernel
theorem dX6_rankOf_43 : decode cX6_rankOf 43 = .ok (.invokevirtual 179, 3) := by decide +kernel
theorem dX6_rankOf_46 : decode cX6_rankOf 46 = .ok (.istore 5, 2) := by decide +kernel
theorem dX6_rankOf_48 : decode cX6_rankOf 48 = .ok (.iload_n 2, 1) := by decide +kernel
theorem dX6_rankOf_49 : decode cX6_rankOf 49 = .ok (.iconst 1, 1) := by decide +kernel
theorem dX6_rankOf_50 : decode cX6_rankOf 50 = .ok (.iadd, 1) := by decide +kernel
theorem dX6_rankOf_51 : decode cX6_rankOf 51 = .ok (.istore 6, 2) := by decide +kernel
theorem dX6_rankOf_53 : decode cX6_rankOf 53 = .ok (.iload 6, 2) := by decide +kernel
theorem dX6_rankOf_55 : decode cX6_rankOf 55 = .ok (.aload_n 0, 1) := by decide +kernel
theorem dX6_rankOf_56 : decode cX6_rankOf 56 = .ok (.getfield 157, 3) := by decide +kernel
theorem dX6_rankOf_59 : decode cX6_rankOf 59 = .ok (.if_icmp .ge 38, 3) := by decide +kernel
theorem dX6_rankOf_62 : decode cX6_rankOf 62 = .ok (.aload_n 0, 1) := by decide +kernel
theorem dX6_rankOf_63 : decode cX6_rankOf 63 = .ok (.iload 6, 2) := by decide +kernel
theorem dX6_rankOf_65 : decode cX6_rankOf 65 = .ok (.iload_n 2, 1) := by decide +kernel
theorem dX6_rankOf_66 : decode cX6_rankOf 66 = .ok (.iload 5, 2) := by decide +kernel
theorem dX6_rankOf_68 : decode cX6_rankOf 68 = .ok (.aload_n 0, 1) := by decide +kernel
theorem dX6_rankOf_69 : decode cX6_rankOf 69 = .ok (.getfield 26, 3) := by decide +kernel
theorem dX6_rankOf_72 : decode cX6_rankOf 72 = .ok (.bipush 21, 2) := by decide +kernel
theorem dX6_rankOf_74 : decode cX6_rankOf 74 = .ok (.iload 6, 2) := by decide +kernel
theorem dX6_rankOf_76 : decode cX6_rankOf 76 = .ok (.imul, 1) := by decide +kernel
theorem dX6_rankOf_77 : decode cX6_rankOf 77 = .ok (.iload_n 3, 1) := by decide +kernel
theorem dX6_rankOf_78 : decode cX6_rankOf 78 = .ok (.iadd, 1) := by decide +kernel
theorem dX6_rankOf_79 : decode cX6_rankOf 79 = .ok (.iaload, 1) := by decide +kernel
theorem dX6_rankOf_80 : decode cX6_rankOf 80 = .ok (.imul, 1) := by decide +kernel
theorem dX6_rankOf_81 : decode cX6_rankOf 81 = .ok (.aload_n 0, 1) := by decide +kernel
theorem dX6_rankOf_82 : decode cX6_rankOf 82 = .ok (.getfield 7, 3) := by decide +kernel
theorem dX6_rankOf_85 : decode cX6_rankOf 85 = .ok (.iconst 0, 1) := by decide +kernel
theorem dX6_rankOf_86 : decode cX6_rankOf 86 = .ok (.iaload, 1) := by decide +kernel
theorem dX6_rankOf_87 : decode cX6_rankOf 87 = .ok (.irem, 1) := by decide +kernel
theorem dX6_rankOf_88 : decode cX6_rankOf 88 = .ok (.invokevirtual 182, 3) := by decide +kernel
theorem dX6_rankOf_91 : decode cX6_rankOf 91 = .ok (.iinc 6 1, 3) := by decide +kernel
theorem dX6_rankOf_94 : decode cX6_rankOf 94 = .ok (.goto (-41), 3) := by decide +kernel
theorem dX6_rankOf_97 : decode cX6_rankOf 97 = .ok (.iinc 2 1, 3) := by decide +kernel
theorem dX6_rankOf_100 : decode cX6_rankOf 100 = .ok (.iinc 3 1, 3) := by decide +kernel
theorem dX6_rankOf_103 : decode cX6_rankOf 103 = .ok (.goto (-99), 3) := by decide +kernel
theorem dX6_rankOf_106 : decode cX6_rankOf 106 = .ok (.iload_n 2, 1) := by decide +kernel
theorem dX6_rankOf_107 : decode cX6_rankOf 107 = .ok (.ireturn, 1) := by decide +kernel
theorem dX6_dimension_0 : decode cX6_dimension 0 = .ok (.aload_n 0, 1) := by decide +kernel
theorem dX6_dimension_1 : decode cX6_dimension 1 = .ok (.getfield 163, 3) := by decide +kernel
theorem dX6_dimension_4 : decode cX6_dimension 4 = .ok (.aload_n 0, 1) := by decide +kernel
theorem dX6_dimension_5 : decode cX6_dimension 5 = .ok (.aload_n 0, 1) := by decide +kernel
theorem dX6_dimension_6 : decode cX6_dimension 6 = .ok (.getfield 163, 3) := by decide +kernel
theorem dX6_dimension_9 : decode cX6_dimension 9 = .ok (.invokevirtual 185, 3) := by decide +kernel
theorem dX6_dimension_12 : decode cX6_dimension 12 = .ok (.isub, 1) := by decide +kernel
theorem dX6_dimension_13 : decode cX6_dimension 13 = .ok (.ireturn, 1) := by decide +kernel
theorem dX6_nullsOf_0 : decode cX6_nullsOf 0 = .ok (.iload_n 1, 1) := by decide +kernel
theorem dX6_nullsOf_1 : decode cX6_nullsOf 1 = .ok (.ifCond .ge 5, 3) := by decide +kernel
theorem dX6_nullsOf_4 : decode cX6_nullsOf 4 = .ok (.iconst 0, 1) := by decide +kernel
theorem dX6_nullsOf_5 : decode cX6_nullsOf 5 = .ok (.ireturn, 1) := by decide +kernel
theorem dX6_nullsOf_6 : decode cX6_nullsOf 6 = .ok (.aload_n 0, 1) := by decide +kernel
theorem dX6_nullsOf_7 : decode cX6_nullsOf 7 = .ok (.iload_n 1, 1) := by decide +kernel
theorem dX6_nullsOf_8 : decode cX6_nullsOf 8 = .ok (.iconst 2, 1) := by decide +kernel
theorem dX6_nullsOf_9 : decode cX6_nullsOf 9 = .ok (.iadd, 1) := by decide +kernel
theorem dX6_nullsOf_10 : decode cX6_nullsOf 10 = .ok (.iload_n 1, 1) := by decide +kernel
theorem dX6_nullsOf_11 : decode cX6_nullsOf 11 = .ok (.iconst 1, 1) := by decide +kernel
theorem dX6_nullsOf_12 : decode cX6_nullsOf 12 = .ok (.iadd, 1) := by decide +kernel
theorem dX6_nullsOf_13 : decode cX6_nullsOf 13 = .ok (.invokevirtual 188, 3) := by decide +kernel
theorem dX6_nullsOf_16 : decode cX6_nullsOf 16 = .ok (.iconst 0, 1) := by decide +kernel
theorem dX6_nullsOf_17 : decode cX6_nullsOf 17 = .ok (.istore_n 2, 1) := by decide +kernel
theorem dX6_nullsOf_18 : decode cX6_nullsOf 18 = .ok (.iload_n 2, 1) := by decide +kernel
theorem dX6_nullsOf_19 : decode cX6_nullsOf 19 = .ok (.iload_n 1, 1) := by decide +kernel
theorem dX6_nullsOf_20 : decode cX6_nullsOf 20 = .ok (.if_icmp .gt 36, 3) := by decide +kernel
theorem dX6_nullsOf_23 : decode cX6_nullsOf 23 = .ok (.aload_n 0, 1) := by decide +kernel
theorem dX6_nullsOf_24 : decode cX6_nullsOf 24 = .ok (.iload_n 2, 1) := by decide +kernel
theorem dX6_nullsOf_25 : decode cX6_nullsOf 25 = .ok (.iload_n 2, 1) := by decide +kernel
theorem dX6_nullsOf_26 : decode cX6_nullsOf 26 = .ok (.iconst 1, 1) := by decide +kernel
theorem dX6_nullsOf_27 : decode cX6_nullsOf 27 = .ok (.iconst 0, 1) := by decide +kernel
theorem dX6_nullsOf_28 : decode cX6_nullsOf 28 = .ok (.invokevirtual 191, 3) := by decide +kernel
theorem dX6_nullsOf_31 : decode cX6_nullsOf 31 = .ok (.aload_n 0, 1) := by decide +kernel
theorem dX6_nullsOf_32 : decode cX6_nullsOf 32 = .ok (.iload_n 2, 1) := by decide +kernel
theorem dX6_nullsOf_33 : decode cX6_nullsOf 33 = .ok (.iconst 1, 1) := by decide +kernel
theorem dX6_nullsOf_34 : decode cX6_nullsOf 34 = .ok (.iadd, 1) := by decide +kernel
theorem dX6_nullsOf_35 : decode cX6_nullsOf 35 = .ok (.iload_n 2, 1) := by decide +kernel
theorem dX6_nullsOf_36 : decode cX6_nullsOf 36 = .ok (.iconst 0, 1) := by decide +kernel
theorem dX6_nullsOf_37 : decode cX6_nullsOf 37 = .ok (.iload_n 2, 1) := by decide +kernel
theorem dX6_nullsOf_38 : decode cX6_nullsOf 38 = .ok (.iload_n 1, 1) := by decide +kernel
theorem dX6_nullsOf_39 : decode cX6_nullsOf 39 = .ok (.if_icmp .ne 7, 3) := by decide +kernel
theorem dX6_nullsOf_42 : decode cX6_nullsOf 42 = .ok (.iconst 1, 1) := by decide +kernel
theorem dX6_nullsOf_43 : decode cX6_nullsOf 43 = .ok (.goto 4, 3) := by decide +kernel
theorem dX6_nullsOf_46 : decode cX6_nullsOf 46 = .ok (.iconst (-1), 1) := by decide +kernel
theorem dX6_nullsOf_47 : decode cX6_nullsOf 47 = .ok (.invokevirtual 191, 3) := by decide +kernel
theorem dX6_nullsOf_50 : decode cX6_nullsOf 50 = .ok (.iinc 2 1, 3) := by decide +kernel
theorem dX6_nullsOf_53 : decode cX6_nullsOf 53 = .ok (.goto (-35), 3) := by decide +kernel
theorem dX6_nullsOf_56 : decode cX6_nullsOf 56 = .ok (.aload_n 0, 1) := by decide +kernel
theorem dX6_nullsOf_57 : decode cX6_nullsOf 57 = .ok (.invokevirtual 194, 3) := by decide +kernel
theorem dX6_nullsOf_60 : decode cX6_nullsOf 60 = .ok (.ireturn, 1) := by decide +kernel
theorem dX6_findIndices_0 : decode cX6_findIndices 0 = .ok (.iconst 0, 1) := by decide +kernel
theorem dX6_findIndices_1 : decode cX6_findIndices 1 = .ok (.istore_n 2, 1) := by decide +kernel
theorem dX6_findIndices_2 : decode cX6_findIndices 2 = .ok (.iconst 0, 1) := by decide +kernel
theorem dX6_findIndices_3 : decode cX6_findIndices 3 = .ok (.istore_n 3, 1) := by decide +kernel
theorem dX6_findIndices_4 : decode cX6_findIndices 4 = .ok (.iconst 0, 1) := by decide +kernel
theorem dX6_findIndices_5 : decode cX6_findIndices 5 = .ok (.istore 4, 2) := by decide +kernel
theorem dX6_findIndices_7 : decode cX6_findIndices 7 = .ok (.iload 4, 2) := by decide +kernel
theorem dX6_findIndices_9 : decode cX6_findIndices 9 = .ok (.iconst 4, 1) := by decide +kernel
theorem dX6_findIndices_10 : decode cX6_findIndices 10 = .ok (.if_icmp .gt 34, 3) := by decide +kernel
theorem dX6_findIndices_13 : decode cX6_findIndices 13 = .ok (.aload_n 0, 1) := by decide +kernel
theorem dX6_findIndices_14 : decode cX6_findIndices 14 = .ok (.iload 4, 2) := by decide +kernel
theorem dX6_findIndices_16 : decode cX6_findIndices 16 = .ok (.invokevirtual 197, 3) := by decide +kernel
theorem dX6_findIndices_19 : decode cX6_findIndices 19 = .ok (.istore 5, 2) := by decide +kernel
theorem dX6_findIndices_21 : decode cX6_findIndices 21 = .ok (.aload_n 1, 1) := by decide +kernel
theorem dX6_findIndices_22 : decode cX6_findIndices 22 = .ok (.iload 4, 2) := by decide +kernel
theorem dX6_findIndices_24 : decode cX6_findIndices 24 = .ok (.iload 5, 2) := by decide +kernel
theorem dX6_findIndices_26 : decode cX6_findIndices 26 = .ok (.iconst 2, 1) := by decide +kernel
theorem dX6_findIndices_27 : decode cX6_findIndices 27 = .ok (.iload_n 2, 1) := by decide +kernel
theorem dX6_findIndices_28 : decode cX6_findIndices 28 = .ok (.imul, 1) := by decide +kernel
theorem dX6_findIndices_29 : decode cX6_findIndices 29 = .ok (.isub, 1) := by decide +kernel
theorem dX6_findIndices_30 : decode cX6_findIndices 30 = .ok (.iload_n 3, 1) := by decide +kernel
theorem dX6_findIndices_31 : decode cX6_findIndices 31 = .ok (.iadd, 1) := by decide +kernel
theorem dX6_findIndices_32 : decode cX6_findIndices 32 = .ok (.iastore, 1) := by decide +kernel
theorem dX6_findIndices_33 : decode cX6_findIndices 33 = .ok (.iload_n 2, 1) := by decide +kernel
theorem dX6_findIndices_34 : decode cX6_findIndices 34 = .ok (.istore_n 3, 1) := by decide +kernel
theorem dX6_findIndices_35 : decode cX6_findIndices 35 = .ok (.iload 5, 2) := by decide +kernel
theorem dX6_findIndices_37 : decode cX6_findIndices 37 = .ok (.istore_n 2, 1) := by decide +kernel
theorem dX6_findIndices_38 : decode cX6_findIndices 38 = .ok (.iinc 4 1, 3) := by decide +kernel
theorem dX6_findIndices_41 : decode cX6_findIndices 41 = .ok (.goto (-34), 3) := by decide +kernel
theorem dX6_findIndices_44 : decode cX6_findIndices 44 = .ok (.return_, 1) := by decide +kernel
theorem dX6_findAllIndices_0 : decode cX6_findAllIndices 0 = .ok (.aload_n 0, 1) := by decide +kernel
theorem dX6_findAllIndices_1 : decode cX6_findAllIndices 1 = .ok (.iconst 0, 1) := by decide +kernel
theorem dX6_findAllIndices_2 : decode cX6_findAllIndices 2 = .ok (.putfield 147, 3) := by decide +kernel
theorem dX6_findAllIndices_5 : decode cX6_findAllIndices 5 = .ok (.aload_n 0, 1) := by decide +kernel
theorem dX6_findAllIndices_6 : decode cX6_findAllIndices 6 = .ok (.aload_n 0, 1) := by decide +kernel
theorem dX6_findAllIndices_7 : decode cX6_findAllIndices 7 = .ok (.getfield 29, 3) := by decide +kernel
theorem dX6_findAllIndices_10 : decode cX6_findAllIndices 10 = .ok (.invokevirtual 200, 3) := by decide +kernel
theorem dX6_findAllIndices_13 : decode cX6_findAllIndices 13 = .ok (.aload_n 0, 1) := by decide +kernel
theorem dX6_findAllIndices_14 : decode cX6_findAllIndices 14 = .ok (.iconst 1, 1) := by decide +kernel
theorem dX6_findAllIndices_15 : decode cX6_findAllIndices 15 = .ok (.putfield 147, 3) := by decide +kernel
theorem dX6_findAllIndices_18 : decode cX6_findAllIndices 18 = .ok (.aload_n 0, 1) := by decide +kernel
theorem dX6_findAllIndices_19 : decode cX6_findAllIndices 19 = .ok (.aload_n 0, 1) := by decide +kernel
theorem dX6_findAllIndices_20 : decode cX6_findAllIndices 20 = .ok (.getfield 32, 3) := by decide +kernel
theorem dX6_findAllIndices_23 : decode cX6_findAllIndices 23 = .ok (.invokevirtual 200, 3) := by decide +kernel
theorem dX6_findAllIndices_26 : decode cX6_findAllIndices 26 = .ok (.aload_n 0, 1) := by decide +kernel
theorem dX6_findAllIndices_27 : decode cX6_findAllIndices 27 = .ok (.iconst 0, 1) := by decide +kernel
theorem dX6_findAllIndices_28 : decode cX6_findAllIndices 28 = .ok (.putfield 147, 3) := by decide +kernel
theorem dX6_findAllIndices_31 : decode cX6_findAllIndices 31 = .ok (.return_, 1) := by decide +kernel
theorem dX6_manyOf_0 : decode cX6_manyOf 0 = .ok (.iconst 0, 1) := by decide +kernel
theorem dX6_manyOf_1 : decode cX6_manyOf 1 = .ok (.istore_n 1, 1) := by decide +kernel
theorem dX6_manyOf_2 : decode cX6_manyOf 2 = .ok (.iconst 0, 1) := by decide +kernel
theorem dX6_manyOf_3 : decode cX6_manyOf 3 = .ok (.istore_n 2, 1) := by decide +kernel
theorem dX6_manyOf_4 : decode cX6_manyOf 4 = .ok (.iload_n 2, 1) := by decide +kernel
theorem dX6_manyOf_5 : decode cX6_manyOf 5 = .ok (.iconst 4, 1) := by decide +kernel
theorem dX6_manyOf_6 : decode cX6_manyOf 6 = .ok (.if_icmp .gt 15, 3) := by decide +kernel
theorem dX6_manyOf_9 : decode cX6_manyOf 9 = .ok (.iload_n 1, 1) := by decide +kernel
theorem dX6_manyOf_10 : decode cX6_manyOf 10 = .ok (.aload_n 0, 1) := by decide +kernel
theorem dX6_manyOf_11 : decode cX6_manyOf 11 = .ok (.iload_n 2, 1) := by decide +kernel
theorem dX6_manyOf_12 : decode cX6_manyOf 12 = .ok (.iaload, 1) := by decide +kernel
theorem dX6_manyOf_13 : decode cX6_manyOf 13 = .ok (.iadd, 1) := by decide +kernel
theorem dX6_manyOf_14 : decode cX6_manyOf 14 = .ok (.istore_n 1, 1) := by decide +kernel
theorem dX6_manyOf_15 : decode cX6_manyOf 15 = .ok (.iinc 2 1, 3) := by decide +kernel
theorem dX6_manyOf_18 : decode cX6_manyOf 18 = .ok (.goto (-14), 3) := by decide +kernel
theorem dX6_manyOf_21 : decode cX6_manyOf 21 = .ok (.iload_n 1, 1) := by decide +kernel
theorem dX6_manyOf_22 : decode cX6_manyOf 22 = .ok (.ireturn, 1) := by decide +kernel
theorem dX6_indexAt_0 : decode cX6_indexAt 0 = .ok (.iload_n 1, 1) := by decide +kernel
theorem dX6_indexAt_1 : decode cX6_indexAt 1 = .ok (.istore_n 2, 1) := by decide +kernel
theorem dX6_indexAt_2 : decode cX6_indexAt 2 = .ok (.iconst 0, 1) := by decide +kernel
theorem dX6_indexAt_3 : decode cX6_indexAt 3 = .ok (.istore_n 3, 1) := by decide +kernel
theorem dX6_indexAt_4 : decode cX6_indexAt 4 = .ok (.iload_n 3, 1) := by decide +kernel
theorem dX6_indexAt_5 : decode cX6_indexAt 5 = .ok (.iconst 4, 1) := by decide +kernel
theorem dX6_indexAt_6 : decode cX6_indexAt 6 = .ok (.if_icmp .gt 24, 3) := by decide +kernel
theorem dX6_indexAt_9 : decode cX6_indexAt 9 = .ok (.iload_n 2, 1) := by decide +kernel
theorem dX6_indexAt_10 : decode cX6_indexAt 10 = .ok (.aload_n 0, 1) := by decide +kernel
theorem dX6_indexAt_11 : decode cX6_indexAt 11 = .ok (.iload_n 3, 1) := by decide +kernel
theorem dX6_indexAt_12 : decode cX6_indexAt 12 = .ok (.iaload, 1) := by decide +kernel
theorem dX6_indexAt_13 : decode cX6_indexAt 13 = .ok (.if_icmp .ge 5, 3) := by decide +kernel
theorem dX6_indexAt_16 : decode cX6_indexAt 16 = .ok (.iload_n 3, 1) := by decide +kernel
theorem dX6_indexAt_17 : decode cX6_indexAt 17 = .ok (.ireturn, 1) := by decide +kernel
theorem dX6_indexAt_18 : decode cX6_indexAt 18 = .ok (.iload_n 2, 1) := by decide +kernel
theorem dX6_indexAt_19 : decode cX6_indexAt 19 = .ok (.aload_n 0, 1) := by decide +kernel
theorem dX6_indexAt_20 : decode cX6_indexAt 20 = .ok (.iload_n 3, 1) := by decide +kernel
theorem dX6_indexAt_21 : decode cX6_indexAt 21 = .ok (.iaload, 1) := by decide +kernel
theorem dX6_indexAt_22 : decode cX6_indexAt 22 = .ok (.isub, 1) := by decide +kernel
theorem dX6_indexAt_23 : decode cX6_indexAt 23 = .ok (.istore_n 2, 1) := by decide +kernel
theorem dX6_indexAt_24 : decode cX6_indexAt 24 = .ok (.iinc 3 1, 3) := by decide +kernel
theorem dX6_indexAt_27 : decode cX6_indexAt 27 = .ok (.goto (-23), 3) := by decide +kernel
theorem dX6_indexAt_30 : decode cX6_indexAt 30 = .ok (.bipush (-4), 2) := by decide +kernel
theorem dX6_indexAt_32 : decode cX6_indexAt 32 = .ok (.ireturn, 1) := by decide +kernel
theorem dX6_addsAt_0 : decode cX6_addsAt 0 = .ok (.iload_n 3, 1) := by decide +kernel
theorem dX6_addsAt_1 : decode cX6_addsAt 1 = .ok (.aload_n 0, 1) := by decide +kernel
theorem dX6_addsAt_2 : decode cX6_addsAt 2 = .ok (.getfield 7, 3) := by decide +kernel
theorem dX6_addsAt_5 : decode cX6_addsAt 5 = .ok (.iconst 0, 1) := by decide +kernel
theorem dX6_addsAt_6 : decode cX6_addsAt 6 = .ok (.iaload, 1) := by decide +kernel
theorem dX6_addsAt_7 : decode cX6_addsAt 7 = .ok (.if_icmp .ne 7, 3) := by decide +kernel
theorem dX6_addsAt_10 : decode cX6_addsAt 10 = .ok (.iconst 1, 1) := by decide +kernel
theorem dX6_addsAt_11 : decode cX6_addsAt 11 = .ok (.goto 4, 3) := by decide +kernel
theorem dX6_addsAt_14 : decode cX6_addsAt 14 = .ok (.iconst 0, 1) := by decide +kernel
theorem dX6_addsAt_15 : decode cX6_addsAt 15 = .ok (.istore 4, 2) := by decide +kernel
theorem dX6_addsAt_17 : decode cX6_addsAt 17 = .ok (.aload_n 0, 1) := by decide +kernel
theorem dX6_addsAt_18 : decode cX6_addsAt 18 = .ok (.iload_n 1, 1) := by decide +kernel
theorem dX6_addsAt_19 : decode cX6_addsAt 19 = .ok (.iload_n 2, 1) := by decide +kernel
theorem dX6_addsAt_20 : decode cX6_addsAt 20 = .ok (.iload 4, 2) := by decide +kernel
theorem dX6_addsAt_22 : decode cX6_addsAt 22 = .ok (.ifCond .eq 7, 3) := by decide +kernel
theorem dX6_addsAt_25 : decode cX6_addsAt 25 = .ok (.iconst 0, 1) := by decide +kernel
theorem dX6_addsAt_26 : decode cX6_addsAt 26 = .ok (.goto 4, 3) := by decide +kernel
theorem dX6_addsAt_29 : decode cX6_addsAt 29 = .ok (.iconst 1, 1) := by decide +kernel
theorem dX6_addsAt_30 : decode cX6_addsAt 30 = .ok (.iload 4, 2) := by decide +kernel
theorem dX6_addsAt_32 : decode cX6_addsAt 32 = .ok (.ifCond .eq 7, 3) := by decide +kernel
theorem dX6_addsAt_35 : decode cX6_addsAt 35 = .ok (.iconst 1, 1) := by decide +kernel
theorem dX6_addsAt_36 : decode cX6_addsAt 36 = .ok (.goto 5, 3) := by decide +kernel
theorem dX6_addsAt_39 : decode cX6_addsAt 39 = .ok (.iload_n 3, 1) := by decide +kernel
theorem dX6_addsAt_40 : decode cX6_addsAt 40 = .ok (.ineg, 1) := by decide +kernel
theorem dX6_addsAt_41 : decode cX6_addsAt 41 = .ok (.invokevirtual 191, 3) := by decide +kernel
theorem dX6_addsAt_44 : decode cX6_addsAt 44 = .ok (.return_, 1) := by decide +kernel
theorem dX6_chainsOf_0 : decode cX6_chainsOf 0 = .ok (.iload_n 1, 1) := by decide +kernel
theorem dX6_chainsOf_1 : decode cX6_chainsOf 1 = .ok (.aload_n 0, 1) := by decide +kernel
theorem dX6_chainsOf_2 : decode cX6_chainsOf 2 = .ok (.getfield 7, 3) := by decide +kernel
theorem dX6_chainsOf_5 : decode cX6_chainsOf 5 = .ok (.iconst 0, 1) := by decide +kernel
theorem dX6_chainsOf_6 : decode cX6_chainsOf 6 = .ok (.iaload, 1) := by decide +kernel
theorem dX6_chainsOf_7 : decode cX6_chainsOf 7 = .ok (.if_icmp .ne 7, 3) := by decide +kernel
theorem dX6_chainsOf_10 : decode cX6_chainsOf 10 = .ok (.iconst 1, 1) := by decide +kernel
theorem dX6_chainsOf_11 : decode cX6_chainsOf 11 = .ok (.goto 4, 3) := by decide +kernel
theorem dX6_chainsOf_14 : decode cX6_chainsOf 14 = .ok (.iconst 0, 1) := by decide +kernel
theorem dX6_chainsOf_15 : decode cX6_chainsOf 15 = .ok (.istore_n 3, 1) := by decide +kernel
theorem dX6_chainsOf_16 : decode cX6_chainsOf 16 = .ok (.aload_n 0, 1) := by decide +kernel
theorem dX6_chainsOf_17 : decode cX6_chainsOf 17 = .ok (.iload_n 2, 1) := by decide +kernel
theorem dX6_chainsOf_18 : decode cX6_chainsOf 18 = .ok (.iload_n 2, 1) := by decide +kernel
theorem dX6_chainsOf_19 : decode cX6_chainsOf 19 = .ok (.invokevirtual 188, 3) := by decide +kernel
theorem dX6_chainsOf_22 : decode cX6_chainsOf 22 = .ok (.iconst 0, 1) := by decide +kernel
theorem dX6_chainsOf_23 : decode cX6_chainsOf 23 = .ok (.istore 4, 2) := by decide +kernel
theorem dX6_chainsOf_25 : decode cX6_chainsOf 25 = .ok (.iload 4, 2) := by decide +kernel
theorem dX6_chainsOf_27 : decode cX6_chainsOf 27 = .ok (.iload_n 2, 1) := by decide +kernel
theorem dX6_chainsOf_28 : decode cX6_chainsOf 28 = .ok (.if_icmp .ge 51, 3) := by decide +kernel
theorem dX6_chainsOf_31 : decode cX6_chainsOf 31 = .ok (.aload_n 0, 1) := by decide +kernel
theorem dX6_chainsOf_32 : decode cX6_chainsOf 32 = .ok (.iload 4, 2) := by decide +kernel
theorem dX6_chainsOf_34 : decode cX6_chainsOf 34 = .ok (.iload 4, 2) := by decide +kernel
theorem dX6_chainsOf_36 : decode cX6_chainsOf 36 = .ok (.iload_n 1, 1) := by decide +kernel
theorem dX6_chainsOf_37 : decode cX6_chainsOf 37 = .ok (.invokevirtual 204, 3) := by decide +kernel
theorem dX6_chainsOf_40 : decode cX6_chainsOf 40 = .ok (.iload 4, 2) := by decide +kernel
theorem dX6_chainsOf_42 : decode cX6_chainsOf 42 = .ok (.ifCond .le 31, 3) := by decide +kernel
theorem dX6_chainsOf_45 : decode cX6_chainsOf 45 = .ok (.aload_n 0, 1) := by decide +kernel
theorem dX6_chainsOf_46 : decode cX6_chainsOf 46 = .ok (.iload 4, 2) := by decide +kernel
theorem dX6_chainsOf_48 : decode cX6_chainsOf 48 = .ok (.iload 4, 2) := by decide +kernel
theorem dX6_chainsOf_50 : decode cX6_chainsOf 50 = .ok (.iconst 1, 1) := by decide +kernel
theorem dX6_chainsOf_51 : decode cX6_chainsOf 51 = .ok (.isub, 1) := by decide +kernel
theorem dX6_chainsOf_52 : decode cX6_chainsOf 52 = .ok (.iload_n 3, 1) := by decide +kernel
theorem dX6_chainsOf_53 : decode cX6_chainsOf 53 = .ok (.ifCond .eq 7, 3) := by decide +kernel
theorem dX6_chainsOf_56 : decode cX6_chainsOf 56 = .ok (.iconst (-1), 1) := by decide +kernel
theorem dX6_chainsOf_57 : decode cX6_chainsOf 57 = .ok (.goto 4, 3) := by decide +kernel
theorem dX6_chainsOf_60 : decode cX6_chainsOf 60 = .ok (.iconst 0, 1) := by decide +kernel
theorem dX6_chainsOf_61 : decode cX6_chainsOf 61 = .ok (.iload_n 3, 1) := by decide +kernel
theorem dX6_chainsOf_62 : decode cX6_chainsOf 62 = .ok (.ifCond .eq 7, 3) := by decide +kernel
theorem dX6_chainsOf_65 : decode cX6_chainsOf 65 = .ok (.iconst 0, 1) := by decide +kernel
theorem dX6_chainsOf_66 : decode cX6_chainsOf 66 = .ok (.goto 4, 3) := by decide +kernel
theorem dX6_chainsOf_69 : decode cX6_chainsOf 69 = .ok (.iconst (-1), 1) := by decide +kernel
theorem dX6_chainsOf_70 : decode cX6_chainsOf 70 = .ok (.invokevirtual 191, 3) := by decide +kernel
theorem dX6_chainsOf_73 : decode cX6_chainsOf 73 = .ok (.iinc 4 1, 3) := by decide +kernel
theorem dX6_chainsOf_76 : decode cX6_chainsOf 76 = .ok (.goto (-51), 3) := by decide +kernel
theorem dX6_chainsOf_79 : decode cX6_chainsOf 79 = .ok (.aload_n 0, 1) := by decide +kernel
theorem dX6_chainsOf_80 : decode cX6_chainsOf 80 = .ok (.invokevirtual 194, 3) := by decide +kernel
theorem dX6_chainsOf_83 : decode cX6_chainsOf 83 = .ok (.ireturn, 1) := by decide +kernel
theorem dX6_findLong_0 : decode cX6_findLong 0 = .ok (.aload_n 0, 1) := by decide +kernel
theorem dX6_findLong_1 : decode cX6_findLong 1 = .ok (.getfield 29, 3) := by decide +kernel
theorem dX6_findLong_4 : decode cX6_findLong 4 = .ok (.invokestatic 207, 3) := by decide +kernel
theorem dX6_findLong_7 : decode cX6_findLong 7 = .ok (.istore_n 2, 1) := by decide +kernel
theorem dX6_findLong_8 : decode cX6_findLong 8 = .ok (.iconst 0, 1) := by decide +kernel
theorem dX6_findLong_9 : decode cX6_findLong 9 = .ok (.istore_n 3, 1) := by decide +kernel
theorem dX6_findLong_10 : decode cX6_findLong 10 = .ok (.iconst 1, 1) := by decide +kernel
theorem dX6_findLong_11 : decode cX6_findLong 11 = .ok (.istore 4, 2) := by decide +kernel
theorem dX6_findLong_13 : decode cX6_findLong 13 = .ok (.iload 4, 2) := by decide +kernel
theorem dX6_findLong_15 : decode cX6_findLong 15 = .ok (.iconst 4, 1) := by decide +kernel
theorem dX6_findLong_16 : decode cX6_findLong 16 = .ok (.if_icmp .gt 34, 3) := by decide +kernel
theorem dX6_findLong_19 : decode cX6_findLong 19 = .ok (.aload_n 0, 1) := by decide +kernel
theorem dX6_findLong_20 : decode cX6_findLong 20 = .ok (.iload_n 1, 1) := by decide +kernel
theorem dX6_findLong_21 : decode cX6_findLong 21 = .ok (.iload 4, 2) := by decide +kernel
theorem dX6_findLong_23 : decode cX6_findLong 23 = .ok (.invokevirtual 211, 3) := by decide +kernel
theorem dX6_findLong_26 : decode cX6_findLong 26 = .ok (.istore 5, 2) := by decide +kernel
theorem dX6_findLong_28 : decode cX6_findLong 28 = .ok (.aload_n 0, 1) := by decide +kernel
theorem dX6_findLong_29 : decode cX6_findLong 29 = .ok (.getfield 35, 3) := by decide +kernel
theorem dX6_findLong_32 : decode cX6_findLong 32 = .ok (.iload 4, 2) := by decide +kernel
theorem dX6_findLong_34 : decode cX6_findLong 34 = .ok (.iload 5, 2) := by decide +kernel
theorem dX6_findLong_36 : decode cX6_findLong 36 = .ok (.iload_n 3, 1) := by decide +kernel
theorem dX6_findLong_37 : decode cX6_findLong 37 = .ok (.isub, 1) := by decide +kernel
theorem dX6_findLong_38 : decode cX6_findLong 38 = .ok (.iload_n 2, 1) := by decide +kernel
theorem dX6_findLong_39 : decode cX6_findLong 39 = .ok (.isub, 1) := by decide +kernel
theorem dX6_findLong_40 : decode cX6_findLong 40 = .ok (.iastore, 1) := by decide +kernel
theorem dX6_findLong_41 : decode cX6_findLong 41 = .ok (.iload 5, 2) := by decide +kernel
theorem dX6_findLong_43 : decode cX6_findLong 43 = .ok (.istore_n 3, 1) := by decide +kernel
theorem dX6_findLong_44 : decode cX6_findLong 44 = .ok (.iinc 4 1, 3) := by decide +kernel
theorem dX6_findLong_47 : decode cX6_findLong 47 = .ok (.goto (-34), 3) := by decide +kernel
theorem dX6_findLong_50 : decode cX6_findLong 50 = .ok (.return_, 1) := by decide +kernel
theorem dX6_lengthAt_0 : decode cX6_lengthAt 0 = .ok (.iconst 0, 1) := by decide +kernel
theorem dX6_lengthAt_1 : decode cX6_lengthAt 1 = .ok (.istore_n 2, 1) := by decide +kernel
theorem dX6_lengthAt_2 : decode cX6_lengthAt 2 = .ok (.iconst 1, 1) := by decide +kernel
theorem dX6_lengthAt_3 : decode cX6_lengthAt 3 = .ok (.istore_n 3, 1) := by decide +kernel
theorem dX6_lengthAt_4 : decode cX6_lengthAt 4 = .ok (.iload_n 3, 1) := by decide +kernel
theorem dX6_lengthAt_5 : decode cX6_lengthAt 5 = .ok (.iconst 4, 1) := by decide +kernel
theorem dX6_lengthAt_6 : decode cX6_lengthAt 6 = .ok (.if_icmp .gt 30, 3) := by decide +kernel
theorem dX6_lengthAt_9 : decode cX6_lengthAt 9 = .ok (.iload_n 2, 1) := by decide +kernel
theorem dX6_lengthAt_10 : decode cX6_lengthAt 10 = .ok (.aload_n 0, 1) := by decide +kernel
theorem dX6_lengthAt_11 : decode cX6_lengthAt 11 = .ok (.getfield 35, 3) := by decide +kernel
theorem dX6_lengthAt_14 : decode cX6_lengthAt 14 = .ok (.iload_n 3, 1) := by decide +kernel
theorem dX6_lengthAt_15 : decode cX6_lengthAt 15 = .ok (.iaload, 1) := by decide +kernel
theorem dX6_lengthAt_16 : decode cX6_lengthAt 16 = .ok (.iload_n 1, 1) := by decide +kernel
theorem dX6_lengthAt_17 : decode cX6_lengthAt 17 = .ok (.if_icmp .le 7, 3) := by decide +kernel
theorem dX6_lengthAt_20 : decode cX6_lengthAt 20 = .ok (.iconst 1, 1) := by decide +kernel
theorem dX6_lengthAt_21 : decode cX6_lengthAt 21 = .ok (.goto 4, 3) := by decide +kernel
theorem dX6_lengthAt_24 : decode cX6_lengthAt 24 = .ok (.iconst 0, 1) := by decide +kernel
theorem dX6_lengthAt_25 : decode cX6_lengthAt 25 = .ok (.invokestatic 214, 3) := by decide +kernel
theorem dX6_lengthAt_28 : decode cX6_lengthAt 28 = .ok (.iadd, 1) := by decide +kernel
theorem dX6_lengthAt_29 : decode cX6_lengthAt 29 = .ok (.istore_n 2, 1) := by decide +kernel
theorem dX6_lengthAt_30 : decode cX6_lengthAt 30 = .ok (.iinc 3 1, 3) := by decide +kernel
theorem dX6_lengthAt_33 : decode cX6_lengthAt 33 = .ok (.goto (-29), 3) := by decide +kernel
theorem dX6_lengthAt_36 : decode cX6_lengthAt 36 = .ok (.iload_n 2, 1) := by decide +kernel
theorem dX6_lengthAt_37 : decode cX6_lengthAt 37 = .ok (.ireturn, 1) := by decide +kernel
theorem dX6_lengthsAt_0 : decode cX6_lengthsAt 0 = .ok (.aload_n 0, 1) := by decide +kernel
theorem dX6_lengthsAt_1 : decode cX6_lengthsAt 1 = .ok (.iload_n 1, 1) := by decide +kernel
theorem dX6_lengthsAt_2 : decode cX6_lengthsAt 2 = .ok (.invokevirtual 218, 3) := by decide +kernel
theorem dX6_lengthsAt_5 : decode cX6_lengthsAt 5 = .ok (.aload_n 0, 1) := by decide +kernel
theorem dX6_lengthsAt_6 : decode cX6_lengthsAt 6 = .ok (.getfield 35, 3) := by decide +kernel
theorem dX6_lengthsAt_9 : decode cX6_lengthsAt 9 = .ok (.iconst 1, 1) := by decide +kernel
theorem dX6_lengthsAt_10 : decode cX6_lengthsAt 10 = .ok (.iaload, 1) := by decide +kernel
theorem dX6_lengthsAt_11 : decode cX6_lengthsAt 11 = .ok (.aload_n 0, 1) := by decide +kernel
theorem dX6_lengthsAt_12 : decode cX6_lengthsAt 12 = .ok (.getfield 35, 3) := by decide +kernel
theorem dX6_lengthsAt_15 : decode cX6_lengthsAt 15 = .ok (.iconst 2, 1) := by decide +kernel
theorem dX6_lengthsAt_16 : decode cX6_lengthsAt 16 = .ok (.iaload, 1) := by decide +kernel
theorem dX6_lengthsAt_17 : decode cX6_lengthsAt 17 = .ok (.iadd, 1) := by decide +kernel
theorem dX6_lengthsAt_18 : decode cX6_lengthsAt 18 = .ok (.aload_n 0, 1) := by decide +kernel
theorem dX6_lengthsAt_19 : decode cX6_lengthsAt 19 = .ok (.getfield 35, 3) := by decide +kernel
theorem dX6_lengthsAt_22 : decode cX6_lengthsAt 22 = .ok (.iconst 3, 1) := by decide +kernel
theorem dX6_lengthsAt_23 : decode cX6_lengthsAt 23 = .ok (.iaload, 1) := by decide +kernel
theorem dX6_lengthsAt_24 : decode cX6_lengthsAt 24 = .ok (.iadd, 1) := by decide +kernel
theorem dX6_lengthsAt_25 : decode cX6_lengthsAt 25 = .ok (.aload_n 0, 1) := by decide +kernel
theorem dX6_lengthsAt_26 : decode cX6_lengthsAt 26 = .ok (.getfield 35, 3) := by decide +kernel
theorem dX6_lengthsAt_29 : decode cX6_lengthsAt 29 = .ok (.iconst 4, 1) := by decide +kernel
theorem dX6_lengthsAt_30 : decode cX6_lengthsAt 30 = .ok (.iaload, 1) := by decide +kernel
theorem dX6_lengthsAt_31 : decode cX6_lengthsAt 31 = .ok (.iadd, 1) := by decide +kernel
theorem dX6_lengthsAt_32 : decode cX6_lengthsAt 32 = .ok (.ireturn, 1) := by decide +kernel
theorem dX6_lengthsBut_0 : decode cX6_lengthsBut 0 = .ok (.iconst 0, 1) := by decide +kernel
theorem dX6_lengthsBut_1 : decode cX6_lengthsBut 1 = .ok (.istore_n 1, 1) := by decide +kernel
theorem dX6_lengthsBut_2 : decode cX6_lengthsBut 2 = .ok (.iconst 0, 1) := by decide +kernel
theorem dX6_lengthsBut_3 : decode cX6_lengthsBut 3 = .ok (.istore_n 2, 1) := by decide +kernel
theorem dX6_lengthsBut_4 : decode cX6_lengthsBut 4 = .ok (.iload_n 2, 1) := by decide +kernel
theorem dX6_lengthsBut_5 : decode cX6_lengthsBut 5 = .ok (.aload_n 0, 1) := by decide +kernel
theorem dX6_lengthsBut_6 : decode cX6_lengthsBut 6 = .ok (.getfield 7, 3) := by decide +kernel
theorem dX6_lengthsBut_9 : decode cX6_lengthsBut 9 = .ok (.iconst 0, 1) := by decide +kernel
theorem dX6_lengthsBut_10 : decode cX6_lengthsBut 10 = .ok (.iaload, 1) := by decide +kernel
theorem dX6_lengthsBut_11 : decode cX6_lengthsBut 11 = .ok (.if_icmp .ge 17, 3) := by decide +kernel
theorem dX6_lengthsBut_14 : decode cX6_lengthsBut 14 = .ok (.iload_n 1, 1) := by decide +kernel
theorem dX6_lengthsBut_15 : decode cX6_lengthsBut 15 = .ok (.aload_n 0, 1) := by decide +kernel
theorem dX6_lengthsBut_16 : decode cX6_lengthsBut 16 = .ok (.iload_n 2, 1) := by decide +kernel
theorem dX6_lengthsBut_17 : decode cX6_lengthsBut 17 = .ok (.invokevirtual 221, 3) := by decide +kernel
theorem dX6_lengthsBut_20 : decode cX6_lengthsBut 20 = .ok (.iadd, 1) := by decide +kernel
theorem dX6_lengthsBut_21 : decode cX6_lengthsBut 21 = .ok (.istore_n 1, 1) := by decide +kernel
theorem dX6_lengthsBut_22 : decode cX6_lengthsBut 22 = .ok (.iinc 2 1, 3) := by decide +kernel
theorem dX6_lengthsBut_25 : decode cX6_lengthsBut 25 = .ok (.goto (-21), 3) := by decide +kernel
theorem dX6_lengthsBut_28 : decode cX6_lengthsBut 28 = .ok (.iload_n 1, 1) := by decide +kernel
theorem dX6_lengthsBut_29 : decode cX6_lengthsBut 29 = .ok (.ireturn, 1) := by decide +kernel
theorem dX6_rest_0 : decode cX6_rest 0 = .ok (.aload_n 0, 1) := by decide +kernel
theorem dX6_rest_1 : decode cX6_rest 1 = .ok (.getfield 7, 3) := by decide +kernel
theorem dX6_rest_4 : decode cX6_rest 4 = .ok (.iconst 2, 1) := by decide +kernel
theorem dX6_rest_5 : decode cX6_rest 5 = .ok (.iaload, 1) := by decide +kernel
theorem dX6_rest_6 : decode cX6_rest 6 = .ok (.aload_n 0, 1) := by decide +kernel
theorem dX6_rest_7 : decode cX6_rest 7 = .ok (.invokevirtual 224, 3) := by decide +kernel
theorem dX6_rest_10 : decode cX6_rest 10 = .ok (.isub, 1) := by decide +kernel
theorem dX6_rest_11 : decode cX6_rest 11 = .ok (.aload_n 0, 1) := by decide +kernel
theorem dX6_rest_12 : decode cX6_rest 12 = .ok (.aload_n 0, 1) := by decide +kernel
theorem dX6_rest_13 : decode cX6_rest 13 = .ok (.getfield 7, 3) := by decide +kernel
theorem dX6_rest_16 : decode cX6_rest 16 = .ok (.iconst 0, 1) := by decide +kernel
theorem dX6_rest_17 : decode cX6_rest 17 = .ok (.iaload, 1) := by decide +kernel
theorem dX6_rest_18 : decode cX6_rest 18 = .ok (.invokevirtual 221, 3) := by decide +kernel
theorem dX6_rest_21 : decode cX6_rest 21 = .ok (.isub, 1) := by decide +kernel
theorem dX6_rest_22 : decode cX6_rest 22 = .ok (.istore_n 1, 1) := by decide +kernel
theorem dX6_rest_23 : decode cX6_rest 23 = .ok (.iconst 0, 1) := by decide +kernel
theorem dX6_rest_24 : decode cX6_rest 24 = .ok (.istore_n 2, 1) := by decide +kernel
theorem dX6_rest_25 : decode cX6_rest 25 = .ok (.iload_n 2, 1) := by decide +kernel
theorem dX6_rest_26 : decode cX6_rest 26 = .ok (.iconst 4, 1) := by decide +kernel
theorem dX6_rest_27 : decode cX6_rest 27 = .ok (.if_icmp .gt 31, 3) := by decide +kernel
theorem dX6_rest_30 : decode cX6_rest 30 = .ok (.iload_n 1, 1) := by decide +kernel
theorem dX6_rest_31 : decode cX6_rest 31 = .ok (.iload_n 2, 1) := by decide +kernel
theorem dX6_rest_32 : decode cX6_rest 32 = .ok (.iconst 1, 1) := by decide +kernel
theorem dX6_rest_33 : decode cX6_rest 33 = .ok (.iadd, 1) := by decide +kernel
theorem dX6_rest_34 : decode cX6_rest 34 = .ok (.aload_n 0, 1) := by decide +kernel
theorem dX6_rest_35 : decode cX6_rest 35 = .ok (.getfield 29, 3) := by decide +kernel
theorem dX6_rest_38 : decode cX6_rest 38 = .ok (.iload_n 2, 1) := by decide +kernel
theorem dX6_rest_39 : decode cX6_rest 39 = .ok (.iaload, 1) := by decide +kernel
theorem dX6_rest_40 : decode cX6_rest 40 = .ok (.imul, 1) := by decide +kernel
theorem dX6_rest_41 : decode cX6_rest 41 = .ok (.iload_n 2, 1) := by decide +kernel
theorem dX6_rest_42 : decode cX6_rest 42 = .ok (.aload_n 0, 1) := by decide +kernel
theorem dX6_rest_43 : decode cX6_rest 43 = .ok (.getfield 32, 3) := by decide +kernel
theorem dX6_rest_46 : decode cX6_rest 46 = .ok (.iload_n 2, 1) := by decide +kernel
theorem dX6_rest_47 : decode cX6_rest 47 = .ok (.iaload, 1) := by decide +kernel
theorem dX6_rest_48 : decode cX6_rest 48 = .ok (.imul, 1) := by decide +kernel
theorem dX6_rest_49 : decode cX6_rest 49 = .ok (.iadd, 1) := by decide +kernel
theorem dX6_rest_50 : decode cX6_rest 50 = .ok (.isub, 1) := by decide +kernel
theorem dX6_rest_51 : decode cX6_rest 51 = .ok (.istore_n 1, 1) := by decide +kernel
theorem dX6_rest_52 : decode cX6_rest 52 = .ok (.iinc 2 1, 3) := by decide +kernel
theorem dX6_rest_55 : decode cX6_rest 55 = .ok (.goto (-30), 3) := by decide +kernel
theorem dX6_rest_58 : decode cX6_rest 58 = .ok (.iload_n 1, 1) := by decide +kernel
theorem dX6_rest_59 : decode cX6_rest 59 = .ok (.ireturn, 1) := by decide +kernel
theorem dX6_rule_0 : decode cX6_rule 0 = .ok (.aload_n 0, 1) := by decide +kernel
theorem dX6_rule_1 : decode cX6_rule 1 = .ok (.invokevirtual 227, 3) := by decide +kernel
theorem dX6_rule_4 : decode cX6_rule 4 = .ok (.iload_n 1, 1) := by decide +kernel
theorem dX6_rule_5 : decode cX6_rule 5 = .ok (.tableswitch 105 0 7 #[47, 54, 61, 68, 76, 84, 95, 100], 47) := by decide +kernel
theorem dX6_rule_52 : decode cX6_rule 52 = .ok (.aload_n 0, 1) := by decide +kernel
theorem dX6_rule_53 : decode cX6_rule 53 = .ok (.getfield 7, 3) := by decide +kernel
theorem dX6_rule_56 : decode cX6_rule 56 = .ok (.iconst 1, 1) := by decide +kernel
theorem dX6_rule_57 : decode cX6_rule 57 = .ok (.iaload, 1) := by decide +kernel
theorem dX6_rule_58 : decode cX6_rule 58 = .ok (.ireturn, 1) := by decide +kernel
theorem dX6_rule_59 : decode cX6_rule 59 = .ok (.aload_n 0, 1) := by decide +kernel
theorem dX6_rule_60 : decode cX6_rule 60 = .ok (.getfield 7, 3) := by decide +kernel
theorem dX6_rule_63 : decode cX6_rule 63 = .ok (.iconst 2, 1) := by decide +kernel
theorem dX6_rule_64 : decode cX6_rule 64 = .ok (.iaload, 1) := by decide +kernel
theorem dX6_rule_65 : decode cX6_rule 65 = .ok (.ireturn, 1) := by decide +kernel
theorem dX6_rule_66 : decode cX6_rule 66 = .ok (.aload_n 0, 1) := by decide +kernel
theorem dX6_rule_67 : decode cX6_rule 67 = .ok (.getfield 7, 3) := by decide +kernel
theorem dX6_rule_70 : decode cX6_rule 70 = .ok (.iconst 0, 1) := by decide +kernel
theorem dX6_rule_71 : decode cX6_rule 71 = .ok (.iaload, 1) := by decide +kernel
theorem dX6_rule_72 : decode cX6_rule 72 = .ok (.ireturn, 1) := by decide +kernel
theorem dX6_rule_73 : decode cX6_rule 73 = .ok (.aload_n 0, 1) := by decide +kernel
theorem dX6_rule_74 : decode cX6_rule 74 = .ok (.getfield 29, 3) := by decide +kernel
theorem dX6_rule_77 : decode cX6_rule 77 = .ok (.invokestatic 207, 3) := by decide +kernel
theorem dX6_rule_80 : decode cX6_rule 80 = .ok (.ireturn, 1) := by decide +kernel
theorem dX6_rule_81 : decode cX6_rule 81 = .ok (.aload_n 0, 1) := by decide +kernel
theorem dX6_rule_82 : decode cX6_rule 82 = .ok (.getfield 32, 3) := by decide +kernel
theorem dX6_rule_85 : decode cX6_rule 85 = .ok (.invokestatic 207, 3) := by decide +kernel
theorem dX6_rule_88 : decode cX6_rule 88 = .ok (.ireturn, 1) := by decide +kernel
theorem dX6_rule_89 : decode cX6_rule 89 = .ok (.aload_n 0, 1) := by decide +kernel
theorem dX6_rule_90 : decode cX6_rule 90 = .ok (.aload_n 0, 1) := by decide +kernel
theorem dX6_rule_91 : decode cX6_rule 91 = .ok (.getfield 7, 3) := by decide +kernel
theorem dX6_rule_94 : decode cX6_rule 94 = .ok (.iconst 0, 1) := by decide +kernel
theorem dX6_rule_95 : decode cX6_rule 95 = .ok (.iaload, 1) := by decide +kernel
theorem dX6_rule_96 : decode cX6_rule 96 = .ok (.invokevirtual 221, 3) := by decide +kernel
theorem dX6_rule_99 : decode cX6_rule 99 = .ok (.ireturn, 1) := by decide +kernel
theorem dX6_rule_100 : decode cX6_rule 100 = .ok (.aload_n 0, 1) := by decide +kernel
theorem dX6_rule_101 : decode cX6_rule 101 = .ok (.invokevirtual 224, 3) := by decide +kernel
theorem dX6_rule_104 : decode cX6_rule 104 = .ok (.ireturn, 1) := by decide +kernel
theorem dX6_rule_105 : decode cX6_rule 105 = .ok (.aload_n 0, 1) := by decide +kernel
theorem dX6_rule_106 : decode cX6_rule 106 = .ok (.invokevirtual 230, 3) := by decide +kernel
theorem dX6_rule_109 : decode cX6_rule 109 = .ok (.ireturn, 1) := by decide +kernel
theorem dX6_rule_110 : decode cX6_rule 110 = .ok (.iconst (-1), 1) := by decide +kernel
theorem dX6_rule_111 : decode cX6_rule 111 = .ok (.ireturn, 1) := by decide +kernel
theorem dX6_cell_0 : decode cX6_cell 0 = .ok (.aload_n 0, 1) := by decide +kernel
theorem dX6_cell_1 : decode cX6_cell 1 = .ok (.iload_n 1, 1) := by decide +kernel
theorem dX6_cell_2 : decode cX6_cell 2 = .ok (.invokevirtual 233, 3) := by decide +kernel
theorem dX6_cell_5 : decode cX6_cell 5 = .ok (.ifCond .eq 22, 3) := by decide +kernel
theorem dX6_cell_8 : decode cX6_cell 8 = .ok (.aload_n 0, 1) := by decide +kernel
theorem dX6_cell_9 : decode cX6_cell 9 = .ok (.iload_n 2, 1) := by decide +kernel
theorem dX6_cell_10 : decode cX6_cell 10 = .ok (.iload_n 3, 1) := by decide +kernel
theorem dX6_cell_11 : decode cX6_cell 11 = .ok (.invokevirtual 236, 3) := by decide +kernel
theorem dX6_cell_14 : decode cX6_cell 14 = .ok (.ifCond .eq 13, 3) := by decide +kernel
theorem dX6_cell_17 : decode cX6_cell 17 = .ok (.aload_n 0, 1) := by decide +kernel
theorem dX6_cell_18 : decode cX6_cell 18 = .ok (.iload_n 1, 1) := by decide +kernel
theorem dX6_cell_19 : decode cX6_cell 19 = .ok (.iload_n 2, 1) := by decide +kernel
theorem dX6_cell_20 : decode cX6_cell 20 = .ok (.iload_n 3, 1) := by decide +kernel
theorem dX6_cell_21 : decode cX6_cell 21 = .ok (.invokevirtual 150, 3) := by decide +kernel
theorem dX6_cell_24 : decode cX6_cell 24 = .ok (.goto 4, 3) := by decide +kernel
theorem dX6_cell_27 : decode cX6_cell 27 = .ok (.iconst (-1), 1) := by decide +kernel
theorem dX6_cell_28 : decode cX6_cell 28 = .ok (.ireturn, 1) := by decide +kernel
theorem dX6_rank_0 : decode cX6_rank 0 = .ok (.aload_n 0, 1) := by decide +kernel
theorem dX6_rank_1 : decode cX6_rank 1 = .ok (.iload_n 1, 1) := by decide +kernel
theorem dX6_rank_2 : decode cX6_rank 2 = .ok (.invokevirtual 240, 3) := by decide +kernel
theorem dX6_rank_5 : decode cX6_rank 5 = .ok (.ifCond .ne 5, 3) := by decide +kernel
theorem dX6_rank_8 : decode cX6_rank 8 = .ok (.iconst (-1), 1) := by decide +kernel
theorem dX6_rank_9 : decode cX6_rank 9 = .ok (.ireturn, 1) := by decide +kernel
theorem dX6_rank_10 : decode cX6_rank 10 = .ok (.aload_n 0, 1) := by decide +kernel
theorem dX6_rank_11 : decode cX6_rank 11 = .ok (.iconst 1, 1) := by decide +kernel
theorem dX6_rank_12 : decode cX6_rank 12 = .ok (.iconst 1, 1) := by decide +kernel
theorem dX6_rank_13 : decode cX6_rank 13 = .ok (.invokevirtual 188, 3) := by decide +kernel
theorem dX6_rank_16 : decode cX6_rank 16 = .ok (.aload_n 0, 1) := by decide +kernel
theorem dX6_rank_17 : decode cX6_rank 17 = .ok (.iconst 0, 1) := by decide +kernel
theorem dX6_rank_18 : decode cX6_rank 18 = .ok (.iconst 0, 1) := by decide +kernel
theorem dX6_rank_19 : decode cX6_rank 19 = .ok (.iload_n 1, 1) := by decide +kernel
theorem dX6_rank_20 : decode cX6_rank 20 = .ok (.invokevirtual 204, 3) := by decide +kernel
theorem dX6_rank_23 : decode cX6_rank 23 = .ok (.aload_n 0, 1) := by decide +kernel
theorem dX6_rank_24 : decode cX6_rank 24 = .ok (.aload_n 0, 1) := by decide +kernel
theorem dX6_rank_25 : decode cX6_rank 25 = .ok (.getfield 163, 3) := by decide +kernel
theorem dX6_rank_28 : decode cX6_rank 28 = .ok (.invokevirtual 185, 3) := by decide +kernel
theorem dX6_rank_31 : decode cX6_rank 31 = .ok (.ireturn, 1) := by decide +kernel
theorem dX6_nulls_0 : decode cX6_nulls 0 = .ok (.iload_n 1, 1) := by decide +kernel
theorem dX6_nulls_1 : decode cX6_nulls 1 = .ok (.i2l, 1) := by decide +kernel
theorem dX6_nulls_2 : decode cX6_nulls 2 = .ok (.lconst 0, 1) := by decide +kernel
theorem dX6_nulls_3 : decode cX6_nulls 3 = .ok (.ldc2_w 243, 3) := by decide +kernel
theorem dX6_nulls_6 : decode cX6_nulls 6 = .ok (.invokestatic 64, 3) := by decide +kernel
theorem dX6_nulls_9 : decode cX6_nulls 9 = .ok (.ifCond .eq 11, 3) := by decide +kernel
theorem dX6_nulls_12 : decode cX6_nulls 12 = .ok (.aload_n 0, 1) := by decide +kernel
theorem dX6_nulls_13 : decode cX6_nulls 13 = .ok (.iload_n 1, 1) := by decide +kernel
theorem dX6_nulls_14 : decode cX6_nulls 14 = .ok (.invokevirtual 197, 3) := by decide +kernel
theorem dX6_nulls_17 : decode cX6_nulls 17 = .ok (.goto 4, 3) := by decide +kernel
theorem dX6_nulls_20 : decode cX6_nulls 20 = .ok (.iconst (-1), 1) := by decide +kernel
theorem dX6_nulls_21 : decode cX6_nulls 21 = .ok (.ireturn, 1) := by decide +kernel
theorem dX6_col_0 : decode cX6_col 0 = .ok (.iload_n 1, 1) := by decide +kernel
theorem dX6_col_1 : decode cX6_col 1 = .ok (.ifCond .ge 5, 3) := by decide +kernel
theorem dX6_col_4 : decode cX6_col 4 = .ok (.iconst (-1), 1) := by decide +kernel
theorem dX6_col_5 : decode cX6_col 5 = .ok (.ireturn, 1) := by decide +kernel
theorem dX6_col_6 : decode cX6_col 6 = .ok (.aload_n 0, 1) := by decide +kernel
theorem dX6_col_7 : decode cX6_col 7 = .ok (.invokevirtual 227, 3) := by decide +kernel
theorem dX6_col_10 : decode cX6_col 10 = .ok (.aload_n 0, 1) := by decide +kernel
theorem dX6_col_11 : decode cX6_col 11 = .ok (.getfield 29, 3) := by decide +kernel
theorem dX6_col_14 : decode cX6_col 14 = .ok (.iload_n 1, 1) := by decide +kernel
theorem dX6_col_15 : decode cX6_col 15 = .ok (.invokestatic 245, 3) := by decide +kernel
theorem dX6_col_18 : decode cX6_col 18 = .ok (.ireturn, 1) := by decide +kernel
theorem dX6_row_0 : decode cX6_row 0 = .ok (.iload_n 1, 1) := by decide +kernel
theorem dX6_row_1 : decode cX6_row 1 = .ok (.ifCond .ge 5, 3) := by decide +kernel
theorem dX6_row_4 : decode cX6_row 4 = .ok (.iconst (-1), 1) := by decide +kernel
theorem dX6_row_5 : decode cX6_row 5 = .ok (.ireturn, 1) := by decide +kernel
theorem dX6_row_6 : decode cX6_row 6 = .ok (.aload_n 0, 1) := by decide +kernel
theorem dX6_row_7 : decode cX6_row 7 = .ok (.invokevirtual 227, 3) := by decide +kernel
theorem dX6_row_10 : decode cX6_row 10 = .ok (.aload_n 0, 1) := by decide +kernel
theorem dX6_row_11 : decode cX6_row 11 = .ok (.getfield 32, 3) := by decide +kernel
theorem dX6_row_14 : decode cX6_row 14 = .ok (.iload_n 1, 1) := by decide +kernel
theorem dX6_row_15 : decode cX6_row 15 = .ok (.invokestatic 245, 3) := by decide +kernel
theorem dX6_row_18 : decode cX6_row 18 = .ok (.ireturn, 1) := by decide +kernel
theorem dX6_chains_0 : decode cX6_chains 0 = .ok (.aload_n 0, 1) := by decide +kernel
theorem dX6_chains_1 : decode cX6_chains 1 = .ok (.iload_n 1, 1) := by decide +kernel
theorem dX6_chains_2 : decode cX6_chains 2 = .ok (.invokevirtual 240, 3) := by decide +kernel
theorem dX6_chains_5 : decode cX6_chains 5 = .ok (.ifCond .eq 24, 3) := by decide +kernel
theorem dX6_chains_8 : decode cX6_chains 8 = .ok (.iload_n 2, 1) := by decide +kernel
theorem dX6_chains_9 : decode cX6_chains 9 = .ok (.i2l, 1) := by decide +kernel
theorem dX6_chains_10 : decode cX6_chains 10 = .ok (.lconst 0, 1) := by decide +kernel
theorem dX6_chains_11 : decode cX6_chains 11 = .ok (.ldc2_w 243, 3) := by decide +kernel
theorem dX6_chains_14 : decode cX6_chains 14 = .ok (.invokestatic 64, 3) := by decide +kernel
theorem dX6_chains_17 : decode cX6_chains 17 = .ok (.ifCond .eq 12, 3) := by decide +kernel
theorem dX6_chains_20 : decode cX6_chains 20 = .ok (.aload_n 0, 1) := by decide +kernel
theorem dX6_chains_21 : decode cX6_chains 21 = .ok (.iload_n 1, 1) := by decide +kernel
theorem dX6_chains_22 : decode cX6_chains 22 = .ok (.iload_n 2, 1) := by decide +kernel
theorem dX6_chains_23 : decode cX6_chains 23 = .ok (.invokevirtual 211, 3) := by decide +kernel
theorem dX6_chains_26 : decode cX6_chains 26 = .ok (.goto 4, 3) := by decide +kernel
theorem dX6_chains_29 : decode cX6_chains 29 = .ok (.iconst (-1), 1) := by decide +kernel
theorem dX6_chains_30 : decode cX6_chains 30 = .ok (.ireturn, 1) := by decide +kernel
theorem dX6_length_0 : decode cX6_length 0 = .ok (.aload_n 0, 1) := by decide +kernel
theorem dX6_length_1 : decode cX6_length 1 = .ok (.iload_n 1, 1) := by decide +kernel
theorem dX6_length_2 : decode cX6_length 2 = .ok (.invokevirtual 240, 3) := by decide +kernel
theorem dX6_length_5 : decode cX6_length 5 = .ok (.ifCond .eq 7, 3) := by decide +kernel
theorem dX6_length_8 : decode cX6_length 8 = .ok (.iload_n 2, 1) := by decide +kernel
theorem dX6_length_9 : decode cX6_length 9 = .ok (.ifCond .ge 5, 3) := by decide +kernel
theorem dX6_length_12 : decode cX6_length 12 = .ok (.iconst (-1), 1) := by decide +kernel
theorem dX6_length_13 : decode cX6_length 13 = .ok (.ireturn, 1) := by decide +kernel
theorem dX6_length_14 : decode cX6_length 14 = .ok (.aload_n 0, 1) := by decide +kernel
theorem dX6_length_15 : decode cX6_length 15 = .ok (.invokevirtual 227, 3) := by decide +kernel
theorem dX6_length_18 : decode cX6_length 18 = .ok (.aload_n 0, 1) := by decide +kernel
theorem dX6_length_19 : decode cX6_length 19 = .ok (.iload_n 1, 1) := by decide +kernel
theorem dX6_length_20 : decode cX6_length 20 = .ok (.invokevirtual 218, 3) := by decide +kernel
theorem dX6_length_23 : decode cX6_length 23 = .ok (.aload_n 0, 1) := by decide +kernel
theorem dX6_length_24 : decode cX6_length 24 = .ok (.iload_n 2, 1) := by decide +kernel
theorem dX6_length_25 : decode cX6_length 25 = .ok (.invokevirtual 249, 3) := by decide +kernel
theorem dX6_length_28 : decode cX6_length 28 = .ok (.istore_n 3, 1) := by decide +kernel
theorem dX6_length_29 : decode cX6_length 29 = .ok (.iload_n 3, 1) := by decide +kernel
theorem dX6_length_30 : decode cX6_length 30 = .ok (.ifCond .ne 8, 3) := by decide +kernel
theorem dX6_length_33 : decode cX6_length 33 = .ok (.bipush (-4), 2) := by decide +kernel
theorem dX6_length_35 : decode cX6_length 35 = .ok (.goto 4, 3) := by decide +kernel
theorem dX6_length_38 : decode cX6_length 38 = .ok (.iload_n 3, 1) := by decide +kernel
theorem dX6_length_39 : decode cX6_length 39 = .ok (.ireturn, 1) := by decide +kernel
theorem dX6_startsSteps_0 : decode cX6_startsSteps 0 = .ok (.aload_n 0, 1) := by decide +kernel
theorem dX6_startsSteps_1 : decode cX6_startsSteps 1 = .ok (.iload_n 1, 1) := by decide +kernel
theorem dX6_startsSteps_2 : decode cX6_startsSteps 2 = .ok (.iload_n 2, 1) := by decide +kernel
theorem dX6_startsSteps_3 : decode cX6_startsSteps 3 = .ok (.ifCond .eq 7, 3) := by decide +kernel
theorem dX6_startsSteps_6 : decode cX6_startsSteps 6 = .ok (.iload_n 1, 1) := by decide +kernel
theorem dX6_startsSteps_7 : decode cX6_startsSteps 7 = .ok (.goto 6, 3) := by decide +kernel
theorem dX6_startsSteps_10 : decode cX6_startsSteps 10 = .ok (.iload_n 1, 1) := by decide +kernel
theorem dX6_startsSteps_11 : decode cX6_startsSteps 11 = .ok (.iconst 1, 1) := by decide +kernel
theorem dX6_startsSteps_12 : decode cX6_startsSteps 12 = .ok (.iadd, 1) := by decide +kernel
theorem dX6_startsSteps_13 : decode cX6_startsSteps 13 = .ok (.invokevirtual 188, 3) := by decide +kernel
theorem dX6_startsSteps_16 : decode cX6_startsSteps 16 = .ok (.iconst 0, 1) := by decide +kernel
theorem dX6_startsSteps_17 : decode cX6_startsSteps 17 = .ok (.istore_n 3, 1) := by decide +kernel
theorem dX6_startsSteps_18 : decode cX6_startsSteps 18 = .ok (.iload_n 3, 1) := by decide +kernel
theorem dX6_startsSteps_19 : decode cX6_startsSteps 19 = .ok (.iload_n 1, 1) := by decide +kernel
end
section
theorem dX6_startsSteps_20 : decode cX6_startsSteps 20 = .ok (.if_icmp .ge 47, 3) := by decide +kernel
theorem dX6_startsSteps_23 : decode cX6_startsSteps 23 = .ok (.iload_n 2, 1) := by decide +kernel
theorem dX6_startsSteps_24 : decode cX6_startsSteps 24 = .ok (.ifCond .eq 9, 3) := by decide +kernel
theorem dX6_startsSteps_27 : decode cX6_startsSteps 27 = .ok (.iload_n 3, 1) := by decide +kernel
theorem dX6_startsSteps_28 : decode cX6_startsSteps 28 = .ok (.iconst 1, 1) := by decide +kernel
theorem dX6_startsSteps_29 : decode cX6_startsSteps 29 = .ok (.isub, 1) := by decide +kernel
theorem dX6_startsSteps_30 : decode cX6_startsSteps 30 = .ok (.goto 4, 3) := by decide +kernel
theorem dX6_startsSteps_33 : decode cX6_startsSteps 33 = .ok (.iload_n 3, 1) := by decide +kernel
theorem dX6_startsSteps_34 : decode cX6_startsSteps 34 = .ok (.istore 4, 2) := by decide +kernel
theorem dX6_startsSteps_36 : decode cX6_startsSteps 36 = .ok (.iload 4, 2) := by decide +kernel
theorem dX6_startsSteps_38 : decode cX6_startsSteps 38 = .ok (.ifCond .lt 12, 3) := by decide +kernel
theorem dX6_startsSteps_41 : decode cX6_startsSteps 41 = .ok (.aload_n 0, 1) := by decide +kernel
theorem dX6_startsSteps_42 : decode cX6_startsSteps 42 = .ok (.iload_n 3, 1) := by decide +kernel
theorem dX6_startsSteps_43 : decode cX6_startsSteps 43 = .ok (.iload 4, 2) := by decide +kernel
theorem dX6_startsSteps_45 : decode cX6_startsSteps 45 = .ok (.iconst (-1), 1) := by decide +kernel
theorem dX6_startsSteps_46 : decode cX6_startsSteps 46 = .ok (.iconst 0, 1) := by decide +kernel
theorem dX6_startsSteps_47 : decode cX6_startsSteps 47 = .ok (.invokevirtual 191, 3) := by decide +kernel
theorem dX6_startsSteps_50 : decode cX6_startsSteps 50 = .ok (.aload_n 0, 1) := by decide +kernel
theorem dX6_startsSteps_51 : decode cX6_startsSteps 51 = .ok (.iload_n 3, 1) := by decide +kernel
theorem dX6_startsSteps_52 : decode cX6_startsSteps 52 = .ok (.iload 4, 2) := by decide +kernel
theorem dX6_startsSteps_54 : decode cX6_startsSteps 54 = .ok (.iconst 1, 1) := by decide +kernel
theorem dX6_startsSteps_55 : decode cX6_startsSteps 55 = .ok (.iadd, 1) := by decide +kernel
theorem dX6_startsSteps_56 : decode cX6_startsSteps 56 = .ok (.iconst 0, 1) := by decide +kernel
theorem dX6_startsSteps_57 : decode cX6_startsSteps 57 = .ok (.iconst 1, 1) := by decide +kernel
theorem dX6_startsSteps_58 : decode cX6_startsSteps 58 = .ok (.invokevirtual 191, 3) := by decide +kernel
theorem dX6_startsSteps_61 : decode cX6_startsSteps 61 = .ok (.iinc 3 1, 3) := by decide +kernel
theorem dX6_startsSteps_64 : decode cX6_startsSteps 64 = .ok (.goto (-46), 3) := by decide +kernel
theorem dX6_startsSteps_67 : decode cX6_startsSteps 67 = .ok (.return_, 1) := by decide +kernel
theorem dX6_steps_0 : decode cX6_steps 0 = .ok (.iload_n 1, 1) := by decide +kernel
theorem dX6_steps_1 : decode cX6_steps 1 = .ok (.i2l, 1) := by decide +kernel
theorem dX6_steps_2 : decode cX6_steps 2 = .ok (.lconst 0, 1) := by decide +kernel
theorem dX6_steps_3 : decode cX6_steps 3 = .ok (.ldc2_w 243, 3) := by decide +kernel
theorem dX6_steps_6 : decode cX6_steps 6 = .ok (.invokestatic 64, 3) := by decide +kernel
theorem dX6_steps_9 : decode cX6_steps 9 = .ok (.ifCond .eq 10, 3) := by decide +kernel
theorem dX6_steps_12 : decode cX6_steps 12 = .ok (.iload_n 2, 1) := by decide +kernel
theorem dX6_steps_13 : decode cX6_steps 13 = .ok (.invokestatic 252, 3) := by decide +kernel
theorem dX6_steps_16 : decode cX6_steps 16 = .ok (.ifCond .ne 5, 3) := by decide +kernel
theorem dX6_steps_19 : decode cX6_steps 19 = .ok (.iconst (-1), 1) := by decide +kernel
theorem dX6_steps_20 : decode cX6_steps 20 = .ok (.ireturn, 1) := by decide +kernel
theorem dX6_steps_21 : decode cX6_steps 21 = .ok (.aload_n 0, 1) := by decide +kernel
theorem dX6_steps_22 : decode cX6_steps 22 = .ok (.iload_n 1, 1) := by decide +kernel
theorem dX6_steps_23 : decode cX6_steps 23 = .ok (.iconst 0, 1) := by decide +kernel
theorem dX6_steps_24 : decode cX6_steps 24 = .ok (.invokevirtual 255, 3) := by decide +kernel
theorem dX6_steps_27 : decode cX6_steps 27 = .ok (.aload_n 0, 1) := by decide +kernel
theorem dX6_steps_28 : decode cX6_steps 28 = .ok (.invokevirtual 194, 3) := by decide +kernel
theorem dX6_steps_31 : decode cX6_steps 31 = .ok (.istore_n 3, 1) := by decide +kernel
theorem dX6_steps_32 : decode cX6_steps 32 = .ok (.iload_n 2, 1) := by decide +kernel
theorem dX6_steps_33 : decode cX6_steps 33 = .ok (.ifCond .ne 5, 3) := by decide +kernel
theorem dX6_steps_36 : decode cX6_steps 36 = .ok (.iload_n 3, 1) := by decide +kernel
theorem dX6_steps_37 : decode cX6_steps 37 = .ok (.ireturn, 1) := by decide +kernel
theorem dX6_steps_38 : decode cX6_steps 38 = .ok (.aload_n 0, 1) := by decide +kernel
theorem dX6_steps_39 : decode cX6_steps 39 = .ok (.iload_n 1, 1) := by decide +kernel
theorem dX6_steps_40 : decode cX6_steps 40 = .ok (.iconst 1, 1) := by decide +kernel
theorem dX6_steps_41 : decode cX6_steps 41 = .ok (.invokevirtual 255, 3) := by decide +kernel
theorem dX6_steps_44 : decode cX6_steps 44 = .ok (.iload_n 3, 1) := by decide +kernel
theorem dX6_steps_45 : decode cX6_steps 45 = .ok (.aload_n 0, 1) := by decide +kernel
theorem dX6_steps_46 : decode cX6_steps 46 = .ok (.invokevirtual 194, 3) := by decide +kernel
theorem dX6_steps_49 : decode cX6_steps 49 = .ok (.isub, 1) := by decide +kernel
theorem dX6_steps_50 : decode cX6_steps 50 = .ok (.ireturn, 1) := by decide +kernel
theorem dX6_isColumn_0 : decode cX6_isColumn 0 = .ok (.iload_n 1, 1) := by decide +kernel
theorem dX6_isColumn_1 : decode cX6_isColumn 1 = .ok (.istore_n 2, 1) := by decide +kernel
theorem dX6_isColumn_2 : decode cX6_isColumn 2 = .ok (.iload_n 1, 1) := by decide +kernel
theorem dX6_isColumn_3 : decode cX6_isColumn 3 = .ok (.ifCond .lt 7, 3) := by decide +kernel
theorem dX6_isColumn_6 : decode cX6_isColumn 6 = .ok (.iconst 1, 1) := by decide +kernel
theorem dX6_isColumn_7 : decode cX6_isColumn 7 = .ok (.goto 4, 3) := by decide +kernel
theorem dX6_isColumn_10 : decode cX6_isColumn 10 = .ok (.iconst 0, 1) := by decide +kernel
theorem dX6_isColumn_11 : decode cX6_isColumn 11 = .ok (.istore_n 3, 1) := by decide +kernel
theorem dX6_isColumn_12 : decode cX6_isColumn 12 = .ok (.iconst 0, 1) := by decide +kernel
theorem dX6_isColumn_13 : decode cX6_isColumn 13 = .ok (.istore 4, 2) := by decide +kernel
theorem dX6_isColumn_15 : decode cX6_isColumn 15 = .ok (.iload 4, 2) := by decide +kernel
theorem dX6_isColumn_17 : decode cX6_isColumn 17 = .ok (.aload_n 0, 1) := by decide +kernel
theorem dX6_isColumn_18 : decode cX6_isColumn 18 = .ok (.getfield 7, 3) := by decide +kernel
theorem dX6_isColumn_21 : decode cX6_isColumn 21 = .ok (.iconst 2, 1) := by decide +kernel
theorem dX6_isColumn_22 : decode cX6_isColumn 22 = .ok (.iaload, 1) := by decide +kernel
theorem dX6_isColumn_23 : decode cX6_isColumn 23 = .ok (.if_icmp .ge 51, 3) := by decide +kernel
theorem dX6_isColumn_26 : decode cX6_isColumn 26 = .ok (.aload_n 0, 1) := by decide +kernel
theorem dX6_isColumn_27 : decode cX6_isColumn 27 = .ok (.getfield 38, 3) := by decide +kernel
theorem dX6_isColumn_30 : decode cX6_isColumn 30 = .ok (.iload 4, 2) := by decide +kernel
theorem dX6_isColumn_32 : decode cX6_isColumn 32 = .ok (.iload_n 2, 1) := by decide +kernel
theorem dX6_isColumn_33 : decode cX6_isColumn 33 = .ok (.bipush 10, 2) := by decide +kernel
theorem dX6_isColumn_35 : decode cX6_isColumn 35 = .ok (.irem, 1) := by decide +kernel
theorem dX6_isColumn_36 : decode cX6_isColumn 36 = .ok (.iastore, 1) := by decide +kernel
theorem dX6_isColumn_37 : decode cX6_isColumn 37 = .ok (.iload_n 3, 1) := by decide +kernel
theorem dX6_isColumn_38 : decode cX6_isColumn 38 = .ok (.ifCond .eq 23, 3) := by decide +kernel
theorem dX6_isColumn_41 : decode cX6_isColumn 41 = .ok (.aload_n 0, 1) := by decide +kernel
theorem dX6_isColumn_42 : decode cX6_isColumn 42 = .ok (.getfield 38, 3) := by decide +kernel
theorem dX6_isColumn_45 : decode cX6_isColumn 45 = .ok (.iload 4, 2) := by decide +kernel
theorem dX6_isColumn_47 : decode cX6_isColumn 47 = .ok (.iaload, 1) := by decide +kernel
theorem dX6_isColumn_48 : decode cX6_isColumn 48 = .ok (.aload_n 0, 1) := by decide +kernel
theorem dX6_isColumn_49 : decode cX6_isColumn 49 = .ok (.getfield 7, 3) := by decide +kernel
theorem dX6_isColumn_52 : decode cX6_isColumn 52 = .ok (.iconst 0, 1) := by decide +kernel
theorem dX6_isColumn_53 : decode cX6_isColumn 53 = .ok (.iaload, 1) := by decide +kernel
theorem dX6_isColumn_54 : decode cX6_isColumn 54 = .ok (.if_icmp .ge 7, 3) := by decide +kernel
theorem dX6_isColumn_57 : decode cX6_isColumn 57 = .ok (.iconst 1, 1) := by decide +kernel
theorem dX6_isColumn_58 : decode cX6_isColumn 58 = .ok (.goto 4, 3) := by decide +kernel
theorem dX6_isColumn_61 : decode cX6_isColumn 61 = .ok (.iconst 0, 1) := by decide +kernel
theorem dX6_isColumn_62 : decode cX6_isColumn 62 = .ok (.istore_n 3, 1) := by decide +kernel
theorem dX6_isColumn_63 : decode cX6_isColumn 63 = .ok (.iload_n 2, 1) := by decide +kernel
theorem dX6_isColumn_64 : decode cX6_isColumn 64 = .ok (.bipush 10, 2) := by decide +kernel
theorem dX6_isColumn_66 : decode cX6_isColumn 66 = .ok (.idiv, 1) := by decide +kernel
theorem dX6_isColumn_67 : decode cX6_isColumn 67 = .ok (.istore_n 2, 1) := by decide +kernel
theorem dX6_isColumn_68 : decode cX6_isColumn 68 = .ok (.iinc 4 1, 3) := by decide +kernel
theorem dX6_isColumn_71 : decode cX6_isColumn 71 = .ok (.goto (-56), 3) := by decide +kernel
theorem dX6_isColumn_74 : decode cX6_isColumn 74 = .ok (.iload_n 3, 1) := by decide +kernel
theorem dX6_isColumn_75 : decode cX6_isColumn 75 = .ok (.ifCond .eq 11, 3) := by decide +kernel
theorem dX6_isColumn_78 : decode cX6_isColumn 78 = .ok (.iload_n 2, 1) := by decide +kernel
theorem dX6_isColumn_79 : decode cX6_isColumn 79 = .ok (.ifCond .ne 7, 3) := by decide +kernel
theorem dX6_isColumn_82 : decode cX6_isColumn 82 = .ok (.iconst 1, 1) := by decide +kernel
theorem dX6_isColumn_83 : decode cX6_isColumn 83 = .ok (.goto 4, 3) := by decide +kernel
theorem dX6_isColumn_86 : decode cX6_isColumn 86 = .ok (.iconst 0, 1) := by decide +kernel
theorem dX6_isColumn_87 : decode cX6_isColumn 87 = .ok (.ireturn, 1) := by decide +kernel
theorem dX6_go_0 : decode cX6_go 0 = .ok (.aload_n 0, 1) := by decide +kernel
theorem dX6_go_1 : decode cX6_go 1 = .ok (.iload_n 1, 1) := by decide +kernel
theorem dX6_go_2 : decode cX6_go 2 = .ok (.invokevirtual 259, 3) := by decide +kernel
theorem dX6_go_5 : decode cX6_go 5 = .ok (.ifCond .eq 15, 3) := by decide +kernel
theorem dX6_go_8 : decode cX6_go 8 = .ok (.iload_n 2, 1) := by decide +kernel
theorem dX6_go_9 : decode cX6_go 9 = .ok (.i2l, 1) := by decide +kernel
theorem dX6_go_10 : decode cX6_go 10 = .ok (.lconst 0, 1) := by decide +kernel
theorem dX6_go_11 : decode cX6_go 11 = .ok (.ldc2_w 243, 3) := by decide +kernel
theorem dX6_go_14 : decode cX6_go 14 = .ok (.invokestatic 64, 3) := by decide +kernel
theorem dX6_go_17 : decode cX6_go 17 = .ok (.ifCond .ne 5, 3) := by decide +kernel
theorem dX6_go_20 : decode cX6_go 20 = .ok (.iconst (-1), 1) := by decide +kernel
theorem dX6_go_21 : decode cX6_go 21 = .ok (.ireturn, 1) := by decide +kernel
theorem dX6_go_22 : decode cX6_go 22 = .ok (.iload_n 2, 1) := by decide +kernel
theorem dX6_go_23 : decode cX6_go 23 = .ok (.ifCond .ne 5, 3) := by decide +kernel
theorem dX6_go_26 : decode cX6_go 26 = .ok (.iconst 1, 1) := by decide +kernel
theorem dX6_go_27 : decode cX6_go 27 = .ok (.ireturn, 1) := by decide +kernel
theorem dX6_go_28 : decode cX6_go 28 = .ok (.aload_n 0, 1) := by decide +kernel
theorem dX6_go_29 : decode cX6_go 29 = .ok (.iload_n 2, 1) := by decide +kernel
theorem dX6_go_30 : decode cX6_go 30 = .ok (.iconst 1, 1) := by decide +kernel
theorem dX6_go_31 : decode cX6_go 31 = .ok (.invokevirtual 255, 3) := by decide +kernel
theorem dX6_go_34 : decode cX6_go 34 = .ok (.iconst 0, 1) := by decide +kernel
theorem dX6_go_35 : decode cX6_go 35 = .ok (.istore_n 3, 1) := by decide +kernel
theorem dX6_go_36 : decode cX6_go 36 = .ok (.iload_n 3, 1) := by decide +kernel
theorem dX6_go_37 : decode cX6_go 37 = .ok (.aload_n 0, 1) := by decide +kernel
theorem dX6_go_38 : decode cX6_go 38 = .ok (.getfield 7, 3) := by decide +kernel
theorem dX6_go_41 : decode cX6_go 41 = .ok (.iconst 1, 1) := by decide +kernel
theorem dX6_go_42 : decode cX6_go 42 = .ok (.iaload, 1) := by decide +kernel
theorem dX6_go_43 : decode cX6_go 43 = .ok (.if_icmp .ge 73, 3) := by decide +kernel
theorem dX6_go_46 : decode cX6_go 46 = .ok (.iconst 0, 1) := by decide +kernel
theorem dX6_go_47 : decode cX6_go 47 = .ok (.istore 4, 2) := by decide +kernel
theorem dX6_go_49 : decode cX6_go 49 = .ok (.iconst 0, 1) := by decide +kernel
theorem dX6_go_50 : decode cX6_go 50 = .ok (.istore 5, 2) := by decide +kernel
theorem dX6_go_52 : decode cX6_go 52 = .ok (.iload 5, 2) := by decide +kernel
theorem dX6_go_54 : decode cX6_go 54 = .ok (.aload_n 0, 1) := by decide +kernel
theorem dX6_go_55 : decode cX6_go 55 = .ok (.getfield 7, 3) := by decide +kernel
theorem dX6_go_58 : decode cX6_go 58 = .ok (.iconst 2, 1) := by decide +kernel
theorem dX6_go_59 : decode cX6_go 59 = .ok (.iaload, 1) := by decide +kernel
theorem dX6_go_60 : decode cX6_go 60 = .ok (.if_icmp .ge 30, 3) := by decide +kernel
theorem dX6_go_63 : decode cX6_go 63 = .ok (.iload 4, 2) := by decide +kernel
theorem dX6_go_65 : decode cX6_go 65 = .ok (.aload_n 0, 1) := by decide +kernel
theorem dX6_go_66 : decode cX6_go 66 = .ok (.iconst 0, 1) := by decide +kernel
theorem dX6_go_67 : decode cX6_go 67 = .ok (.iload_n 3, 1) := by decide +kernel
theorem dX6_go_68 : decode cX6_go 68 = .ok (.iload 5, 2) := by decide +kernel
theorem dX6_go_70 : decode cX6_go 70 = .ok (.invokevirtual 150, 3) := by decide +kernel
theorem dX6_go_73 : decode cX6_go 73 = .ok (.aload_n 0, 1) := by decide +kernel
theorem dX6_go_74 : decode cX6_go 74 = .ok (.getfield 38, 3) := by decide +kernel
theorem dX6_go_77 : decode cX6_go 77 = .ok (.iload 5, 2) := by decide +kernel
theorem dX6_go_79 : decode cX6_go 79 = .ok (.iaload, 1) := by decide +kernel
theorem dX6_go_80 : decode cX6_go 80 = .ok (.imul, 1) := by decide +kernel
theorem dX6_go_81 : decode cX6_go 81 = .ok (.iadd, 1) := by decide +kernel
theorem dX6_go_82 : decode cX6_go 82 = .ok (.istore 4, 2) := by decide +kernel
theorem dX6_go_84 : decode cX6_go 84 = .ok (.iinc 5 1, 3) := by decide +kernel
theorem dX6_go_87 : decode cX6_go 87 = .ok (.goto (-35), 3) := by decide +kernel
theorem dX6_go_90 : decode cX6_go 90 = .ok (.aload_n 0, 1) := by decide +kernel
theorem dX6_go_91 : decode cX6_go 91 = .ok (.getfield 26, 3) := by decide +kernel
theorem dX6_go_94 : decode cX6_go 94 = .ok (.bipush 21, 2) := by decide +kernel
theorem dX6_go_96 : decode cX6_go 96 = .ok (.iload_n 3, 1) := by decide +kernel
theorem dX6_go_97 : decode cX6_go 97 = .ok (.imul, 1) := by decide +kernel
theorem dX6_go_98 : decode cX6_go 98 = .ok (.aload_n 0, 1) := by decide +kernel
theorem dX6_go_99 : decode cX6_go 99 = .ok (.getfield 163, 3) := by decide +kernel
theorem dX6_go_102 : decode cX6_go 102 = .ok (.iadd, 1) := by decide +kernel
theorem dX6_go_103 : decode cX6_go 103 = .ok (.aload_n 0, 1) := by decide +kernel
theorem dX6_go_104 : decode cX6_go 104 = .ok (.iload 4, 2) := by decide +kernel
theorem dX6_go_106 : decode cX6_go 106 = .ok (.invokevirtual 169, 3) := by decide +kernel
theorem dX6_go_109 : decode cX6_go 109 = .ok (.iastore, 1) := by decide +kernel
theorem dX6_go_110 : decode cX6_go 110 = .ok (.iinc 3 1, 3) := by decide +kernel
theorem dX6_go_113 : decode cX6_go 113 = .ok (.goto (-77), 3) := by decide +kernel
theorem dX6_go_116 : decode cX6_go 116 = .ok (.aload_n 0, 1) := by decide +kernel
theorem dX6_go_117 : decode cX6_go 117 = .ok (.aload_n 0, 1) := by decide +kernel
theorem dX6_go_118 : decode cX6_go 118 = .ok (.getfield 163, 3) := by decide +kernel
theorem dX6_go_121 : decode cX6_go 121 = .ok (.invokevirtual 185, 3) := by decide +kernel
theorem dX6_go_124 : decode cX6_go 124 = .ok (.istore_n 3, 1) := by decide +kernel
theorem dX6_go_125 : decode cX6_go 125 = .ok (.aload_n 0, 1) := by decide +kernel
theorem dX6_go_126 : decode cX6_go 126 = .ok (.iload_n 3, 1) := by decide +kernel
theorem dX6_go_127 : decode cX6_go 127 = .ok (.invokevirtual 262, 3) := by decide +kernel
theorem dX6_go_130 : decode cX6_go 130 = .ok (.invokestatic 214, 3) := by decide +kernel
theorem dX6_go_133 : decode cX6_go 133 = .ok (.ireturn, 1) := by decide +kernel
theorem dX6_rankFrom_0 : decode cX6_rankFrom 0 = .ok (.iconst 1, 1) := by decide +kernel
theorem dX6_rankFrom_1 : decode cX6_rankFrom 1 = .ok (.istore_n 2, 1) := by decide +kernel
theorem dX6_rankFrom_2 : decode cX6_rankFrom 2 = .ok (.iload_n 1, 1) := by decide +kernel
theorem dX6_rankFrom_3 : decode cX6_rankFrom 3 = .ok (.istore_n 3, 1) := by decide +kernel
theorem dX6_rankFrom_4 : decode cX6_rankFrom 4 = .ok (.iload_n 3, 1) := by decide +kernel
theorem dX6_rankFrom_5 : decode cX6_rankFrom 5 = .ok (.aload_n 0, 1) := by decide +kernel
theorem dX6_rankFrom_6 : decode cX6_rankFrom 6 = .ok (.getfield 157, 3) := by decide +kernel
theorem dX6_rankFrom_9 : decode cX6_rankFrom 9 = .ok (.if_icmp .ge 36, 3) := by decide +kernel
theorem dX6_rankFrom_12 : decode cX6_rankFrom 12 = .ok (.iload_n 2, 1) := by decide +kernel
theorem dX6_rankFrom_13 : decode cX6_rankFrom 13 = .ok (.ifCond .eq 24, 3) := by decide +kernel
theorem dX6_rankFrom_16 : decode cX6_rankFrom 16 = .ok (.aload_n 0, 1) := by decide +kernel
theorem dX6_rankFrom_17 : decode cX6_rankFrom 17 = .ok (.getfield 26, 3) := by decide +kernel
theorem dX6_rankFrom_20 : decode cX6_rankFrom 20 = .ok (.bipush 21, 2) := by decide +kernel
theorem dX6_rankFrom_22 : decode cX6_rankFrom 22 = .ok (.iload_n 3, 1) := by decide +kernel
theorem dX6_rankFrom_23 : decode cX6_rankFrom 23 = .ok (.imul, 1) := by decide +kernel
theorem dX6_rankFrom_24 : decode cX6_rankFrom 24 = .ok (.aload_n 0, 1) := by decide +kernel
theorem dX6_rankFrom_25 : decode cX6_rankFrom 25 = .ok (.getfield 163, 3) := by decide +kernel
theorem dX6_rankFrom_28 : decode cX6_rankFrom 28 = .ok (.iadd, 1) := by decide +kernel
theorem dX6_rankFrom_29 : decode cX6_rankFrom 29 = .ok (.iaload, 1) := by decide +kernel
theorem dX6_rankFrom_30 : decode cX6_rankFrom 30 = .ok (.ifCond .ne 7, 3) := by decide +kernel
theorem dX6_rankFrom_33 : decode cX6_rankFrom 33 = .ok (.iconst 1, 1) := by decide +kernel
theorem dX6_rankFrom_34 : decode cX6_rankFrom 34 = .ok (.goto 4, 3) := by decide +kernel
theorem dX6_rankFrom_37 : decode cX6_rankFrom 37 = .ok (.iconst 0, 1) := by decide +kernel
theorem dX6_rankFrom_38 : decode cX6_rankFrom 38 = .ok (.istore_n 2, 1) := by decide +kernel
theorem dX6_rankFrom_39 : decode cX6_rankFrom 39 = .ok (.iinc 3 1, 3) := by decide +kernel
theorem dX6_rankFrom_42 : decode cX6_rankFrom 42 = .ok (.goto (-38), 3) := by decide +kernel
theorem dX6_rankFrom_45 : decode cX6_rankFrom 45 = .ok (.iload_n 2, 1) := by decide +kernel
theorem dX6_rankFrom_46 : decode cX6_rankFrom 46 = .ok (.ireturn, 1) := by decide +kernel
theorem dX6_set_0 : decode cX6_set 0 = .ok (.aload_n 0, 1) := by decide +kernel
theorem dX6_set_1 : decode cX6_set 1 = .ok (.iload_n 1, 1) := by decide +kernel
theorem dX6_set_2 : decode cX6_set 2 = .ok (.invokevirtual 233, 3) := by decide +kernel
theorem dX6_set_5 : decode cX6_set 5 = .ok (.ifCond .eq 31, 3) := by decide +kernel
theorem dX6_set_8 : decode cX6_set 8 = .ok (.aload_n 0, 1) := by decide +kernel
theorem dX6_set_9 : decode cX6_set 9 = .ok (.iload_n 2, 1) := by decide +kernel
theorem dX6_set_10 : decode cX6_set 10 = .ok (.iload_n 3, 1) := by decide +kernel
theorem dX6_set_11 : decode cX6_set 11 = .ok (.invokevirtual 236, 3) := by decide +kernel
theorem dX6_set_14 : decode cX6_set 14 = .ok (.ifCond .eq 22, 3) := by decide +kernel
theorem dX6_set_17 : decode cX6_set 17 = .ok (.iload 4, 2) := by decide +kernel
theorem dX6_set_19 : decode cX6_set 19 = .ok (.i2l, 1) := by decide +kernel
theorem dX6_set_20 : decode cX6_set 20 = .ok (.lconst 0, 1) := by decide +kernel
theorem dX6_set_21 : decode cX6_set 21 = .ok (.aload_n 0, 1) := by decide +kernel
theorem dX6_set_22 : decode cX6_set 22 = .ok (.getfield 7, 3) := by decide +kernel
theorem dX6_set_25 : decode cX6_set 25 = .ok (.iconst 0, 1) := by decide +kernel
theorem dX6_set_26 : decode cX6_set 26 = .ok (.iaload, 1) := by decide +kernel
theorem dX6_set_27 : decode cX6_set 27 = .ok (.iconst 1, 1) := by decide +kernel
theorem dX6_set_28 : decode cX6_set 28 = .ok (.isub, 1) := by decide +kernel
theorem dX6_set_29 : decode cX6_set 29 = .ok (.i2l, 1) := by decide +kernel
theorem dX6_set_30 : decode cX6_set 30 = .ok (.invokestatic 64, 3) := by decide +kernel
theorem dX6_set_33 : decode cX6_set 33 = .ok (.ifCond .ne 5, 3) := by decide +kernel
theorem dX6_set_36 : decode cX6_set 36 = .ok (.iconst (-1), 1) := by decide +kernel
theorem dX6_set_37 : decode cX6_set 37 = .ok (.ireturn, 1) := by decide +kernel
theorem dX6_set_38 : decode cX6_set 38 = .ok (.aload_n 0, 1) := by decide +kernel
theorem dX6_set_39 : decode cX6_set 39 = .ok (.iload_n 1, 1) := by decide +kernel
theorem dX6_set_40 : decode cX6_set 40 = .ok (.iload_n 2, 1) := by decide +kernel
theorem dX6_set_41 : decode cX6_set 41 = .ok (.iload_n 3, 1) := by decide +kernel
theorem dX6_set_42 : decode cX6_set 42 = .ok (.invokevirtual 150, 3) := by decide +kernel
theorem dX6_set_45 : decode cX6_set 45 = .ok (.istore 5, 2) := by decide +kernel
theorem dX6_set_47 : decode cX6_set 47 = .ok (.aload_n 0, 1) := by decide +kernel
theorem dX6_set_48 : decode cX6_set 48 = .ok (.iload_n 1, 1) := by decide +kernel
theorem dX6_set_49 : decode cX6_set 49 = .ok (.iload_n 2, 1) := by decide +kernel
theorem dX6_set_50 : decode cX6_set 50 = .ok (.iload_n 3, 1) := by decide +kernel
theorem dX6_set_51 : decode cX6_set 51 = .ok (.iload 4, 2) := by decide +kernel
theorem dX6_set_53 : decode cX6_set 53 = .ok (.invokevirtual 265, 3) := by decide +kernel
theorem dX6_set_56 : decode cX6_set 56 = .ok (.iload 5, 2) := by decide +kernel
theorem dX6_set_58 : decode cX6_set 58 = .ok (.ireturn, 1) := by decide +kernel
theorem dX6_open_0 : decode cX6_open 0 = .ok (.iload_n 1, 1) := by decide +kernel
theorem dX6_open_1 : decode cX6_open 1 = .ok (.invokestatic 252, 3) := by decide +kernel
theorem dX6_open_4 : decode cX6_open 4 = .ok (.ifCond .ne 5, 3) := by decide +kernel
theorem dX6_open_7 : decode cX6_open 7 = .ok (.iconst (-1), 1) := by decide +kernel
theorem dX6_open_8 : decode cX6_open 8 = .ok (.ireturn, 1) := by decide +kernel
theorem dX6_open_9 : decode cX6_open 9 = .ok (.aload_n 0, 1) := by decide +kernel
theorem dX6_open_10 : decode cX6_open 10 = .ok (.getfield 7, 3) := by decide +kernel
theorem dX6_open_13 : decode cX6_open 13 = .ok (.iconst 1, 1) := by decide +kernel
theorem dX6_open_14 : decode cX6_open 14 = .ok (.iload_n 1, 1) := by decide +kernel
theorem dX6_open_15 : decode cX6_open 15 = .ok (.iadd, 1) := by decide +kernel
theorem dX6_open_16 : decode cX6_open 16 = .ok (.iaload, 1) := by decide +kernel
theorem dX6_open_17 : decode cX6_open 17 = .ok (.istore_n 2, 1) := by decide +kernel
theorem dX6_open_18 : decode cX6_open 18 = .ok (.iload_n 2, 1) := by decide +kernel
theorem dX6_open_19 : decode cX6_open 19 = .ok (.iconst 4, 1) := by decide +kernel
theorem dX6_open_20 : decode cX6_open 20 = .ok (.if_icmp .ne 6, 3) := by decide +kernel
theorem dX6_open_23 : decode cX6_open 23 = .ok (.bipush (-3), 2) := by decide +kernel
theorem dX6_open_25 : decode cX6_open 25 = .ok (.ireturn, 1) := by decide +kernel
theorem dX6_open_26 : decode cX6_open 26 = .ok (.iconst 0, 1) := by decide +kernel
theorem dX6_open_27 : decode cX6_open 27 = .ok (.istore_n 3, 1) := by decide +kernel
theorem dX6_open_28 : decode cX6_open 28 = .ok (.iload_n 3, 1) := by decide +kernel
theorem dX6_open_29 : decode cX6_open 29 = .ok (.iconst 4, 1) := by decide +kernel
theorem dX6_open_30 : decode cX6_open 30 = .ok (.if_icmp .ge 49, 3) := by decide +kernel
theorem dX6_open_33 : decode cX6_open 33 = .ok (.iconst 0, 1) := by decide +kernel
theorem dX6_open_34 : decode cX6_open 34 = .ok (.istore 4, 2) := by decide +kernel
theorem dX6_open_36 : decode cX6_open 36 = .ok (.iload 4, 2) := by decide +kernel
theorem dX6_open_38 : decode cX6_open 38 = .ok (.iconst 2, 1) := by decide +kernel
theorem dX6_open_39 : decode cX6_open 39 = .ok (.if_icmp .ge 34, 3) := by decide +kernel
theorem dX6_open_42 : decode cX6_open 42 = .ok (.aload_n 0, 1) := by decide +kernel
theorem dX6_open_43 : decode cX6_open 43 = .ok (.iload 4, 2) := by decide +kernel
theorem dX6_open_45 : decode cX6_open 45 = .ok (.iload_n 1, 1) := by decide +kernel
theorem dX6_open_46 : decode cX6_open 46 = .ok (.ifCond .ne 7, 3) := by decide +kernel
theorem dX6_open_49 : decode cX6_open 49 = .ok (.iload_n 2, 1) := by decide +kernel
theorem dX6_open_50 : decode cX6_open 50 = .ok (.goto 4, 3) := by decide +kernel
theorem dX6_open_53 : decode cX6_open 53 = .ok (.iload_n 3, 1) := by decide +kernel
theorem dX6_open_54 : decode cX6_open 54 = .ok (.iload_n 1, 1) := by decide +kernel
theorem dX6_open_55 : decode cX6_open 55 = .ok (.ifCond .ne 7, 3) := by decide +kernel
theorem dX6_open_58 : decode cX6_open 58 = .ok (.iload_n 3, 1) := by decide +kernel
theorem dX6_open_59 : decode cX6_open 59 = .ok (.goto 4, 3) := by decide +kernel
theorem dX6_open_62 : decode cX6_open 62 = .ok (.iload_n 2, 1) := by decide +kernel
theorem dX6_open_63 : decode cX6_open 63 = .ok (.iconst 0, 1) := by decide +kernel
theorem dX6_open_64 : decode cX6_open 64 = .ok (.invokevirtual 265, 3) := by decide +kernel
theorem dX6_open_67 : decode cX6_open 67 = .ok (.iinc 4 1, 3) := by decide +kernel
theorem dX6_open_70 : decode cX6_open 70 = .ok (.goto (-34), 3) := by decide +kernel
theorem dX6_open_73 : decode cX6_open 73 = .ok (.iinc 3 1, 3) := by decide +kernel
theorem dX6_open_76 : decode cX6_open 76 = .ok (.goto (-48), 3) := by decide +kernel
theorem dX6_open_79 : decode cX6_open 79 = .ok (.aload_n 0, 1) := by decide +kernel
theorem dX6_open_80 : decode cX6_open 80 = .ok (.getfield 7, 3) := by decide +kernel
theorem dX6_open_83 : decode cX6_open 83 = .ok (.iconst 1, 1) := by decide +kernel
theorem dX6_open_84 : decode cX6_open 84 = .ok (.iload_n 1, 1) := by decide +kernel
theorem dX6_open_85 : decode cX6_open 85 = .ok (.iadd, 1) := by decide +kernel
theorem dX6_open_86 : decode cX6_open 86 = .ok (.iload_n 2, 1) := by decide +kernel
theorem dX6_open_87 : decode cX6_open 87 = .ok (.iconst 1, 1) := by decide +kernel
theorem dX6_open_88 : decode cX6_open 88 = .ok (.iadd, 1) := by decide +kernel
theorem dX6_open_89 : decode cX6_open 89 = .ok (.iastore, 1) := by decide +kernel
theorem dX6_open_90 : decode cX6_open 90 = .ok (.iload_n 2, 1) := by decide +kernel
theorem dX6_open_91 : decode cX6_open 91 = .ok (.iconst 1, 1) := by decide +kernel
theorem dX6_open_92 : decode cX6_open 92 = .ok (.iadd, 1) := by decide +kernel
theorem dX6_open_93 : decode cX6_open 93 = .ok (.ireturn, 1) := by decide +kernel
theorem dX6_shape_0 : decode cX6_shape 0 = .ok (.bipush 10, 2) := by decide +kernel
theorem dX6_shape_2 : decode cX6_shape 2 = .ok (.aload_n 0, 1) := by decide +kernel
theorem dX6_shape_3 : decode cX6_shape 3 = .ok (.getfield 7, 3) := by decide +kernel
theorem dX6_shape_6 : decode cX6_shape 6 = .ok (.iconst 1, 1) := by decide +kernel
theorem dX6_shape_7 : decode cX6_shape 7 = .ok (.iaload, 1) := by decide +kernel
theorem dX6_shape_8 : decode cX6_shape 8 = .ok (.imul, 1) := by decide +kernel
theorem dX6_shape_9 : decode cX6_shape 9 = .ok (.aload_n 0, 1) := by decide +kernel
theorem dX6_shape_10 : decode cX6_shape 10 = .ok (.getfield 7, 3) := by decide +kernel
theorem dX6_shape_13 : decode cX6_shape 13 = .ok (.iconst 2, 1) := by decide +kernel
theorem dX6_shape_14 : decode cX6_shape 14 = .ok (.iaload, 1) := by decide +kernel
theorem dX6_shape_15 : decode cX6_shape 15 = .ok (.iadd, 1) := by decide +kernel
theorem dX6_shape_16 : decode cX6_shape 16 = .ok (.ireturn, 1) := by decide +kernel
theorem dX6_cut_0 : decode cX6_cut 0 = .ok (.iload_n 1, 1) := by decide +kernel
theorem dX6_cut_1 : decode cX6_cut 1 = .ok (.i2l, 1) := by decide +kernel
theorem dX6_cut_2 : decode cX6_cut 2 = .ok (.lconst 0, 1) := by decide +kernel
theorem dX6_cut_3 : decode cX6_cut 3 = .ok (.aload_n 0, 1) := by decide +kernel
theorem dX6_cut_4 : decode cX6_cut 4 = .ok (.getfield 7, 3) := by decide +kernel
theorem dX6_cut_7 : decode cX6_cut 7 = .ok (.iconst 1, 1) := by decide +kernel
theorem dX6_cut_8 : decode cX6_cut 8 = .ok (.iaload, 1) := by decide +kernel
theorem dX6_cut_9 : decode cX6_cut 9 = .ok (.i2l, 1) := by decide +kernel
theorem dX6_cut_10 : decode cX6_cut 10 = .ok (.invokestatic 64, 3) := by decide +kernel
theorem dX6_cut_13 : decode cX6_cut 13 = .ok (.ifCond .eq 19, 3) := by decide +kernel
theorem dX6_cut_16 : decode cX6_cut 16 = .ok (.iload_n 2, 1) := by decide +kernel
theorem dX6_cut_17 : decode cX6_cut 17 = .ok (.i2l, 1) := by decide +kernel
theorem dX6_cut_18 : decode cX6_cut 18 = .ok (.lconst 0, 1) := by decide +kernel
theorem dX6_cut_19 : decode cX6_cut 19 = .ok (.aload_n 0, 1) := by decide +kernel
theorem dX6_cut_20 : decode cX6_cut 20 = .ok (.getfield 7, 3) := by decide +kernel
theorem dX6_cut_23 : decode cX6_cut 23 = .ok (.iconst 2, 1) := by decide +kernel
theorem dX6_cut_24 : decode cX6_cut 24 = .ok (.iaload, 1) := by decide +kernel
theorem dX6_cut_25 : decode cX6_cut 25 = .ok (.i2l, 1) := by decide +kernel
theorem dX6_cut_26 : decode cX6_cut 26 = .ok (.invokestatic 64, 3) := by decide +kernel
theorem dX6_cut_29 : decode cX6_cut 29 = .ok (.ifCond .ne 5, 3) := by decide +kernel
theorem dX6_cut_32 : decode cX6_cut 32 = .ok (.iconst (-1), 1) := by decide +kernel
theorem dX6_cut_33 : decode cX6_cut 33 = .ok (.ireturn, 1) := by decide +kernel
theorem dX6_cut_34 : decode cX6_cut 34 = .ok (.aload_n 0, 1) := by decide +kernel
theorem dX6_cut_35 : decode cX6_cut 35 = .ok (.invokevirtual 268, 3) := by decide +kernel
theorem dX6_cut_38 : decode cX6_cut 38 = .ok (.istore_n 3, 1) := by decide +kernel
theorem dX6_cut_39 : decode cX6_cut 39 = .ok (.aload_n 0, 1) := by decide +kernel
theorem dX6_cut_40 : decode cX6_cut 40 = .ok (.getfield 7, 3) := by decide +kernel
theorem dX6_cut_43 : decode cX6_cut 43 = .ok (.iconst 1, 1) := by decide +kernel
theorem dX6_cut_44 : decode cX6_cut 44 = .ok (.iload_n 1, 1) := by decide +kernel
theorem dX6_cut_45 : decode cX6_cut 45 = .ok (.iastore, 1) := by decide +kernel
theorem dX6_cut_46 : decode cX6_cut 46 = .ok (.aload_n 0, 1) := by decide +kernel
theorem dX6_cut_47 : decode cX6_cut 47 = .ok (.getfield 7, 3) := by decide +kernel
theorem dX6_cut_50 : decode cX6_cut 50 = .ok (.iconst 2, 1) := by decide +kernel
theorem dX6_cut_51 : decode cX6_cut 51 = .ok (.iload_n 2, 1) := by decide +kernel
theorem dX6_cut_52 : decode cX6_cut 52 = .ok (.iastore, 1) := by decide +kernel
theorem dX6_cut_53 : decode cX6_cut 53 = .ok (.iload_n 3, 1) := by decide +kernel
theorem dX6_cut_54 : decode cX6_cut 54 = .ok (.ireturn, 1) := by decide +kernel
theorem dX6_isLine_0 : decode cX6_isLine 0 = .ok (.iload_n 1, 1) := by decide +kernel
theorem dX6_isLine_1 : decode cX6_isLine 1 = .ok (.invokestatic 252, 3) := by decide +kernel
theorem dX6_isLine_4 : decode cX6_isLine 4 = .ok (.ifCond .eq 27, 3) := by decide +kernel
theorem dX6_isLine_7 : decode cX6_isLine 7 = .ok (.iload_n 2, 1) := by decide +kernel
theorem dX6_isLine_8 : decode cX6_isLine 8 = .ok (.i2l, 1) := by decide +kernel
theorem dX6_isLine_9 : decode cX6_isLine 9 = .ok (.lconst 0, 1) := by decide +kernel
theorem dX6_isLine_10 : decode cX6_isLine 10 = .ok (.aload_n 0, 1) := by decide +kernel
theorem dX6_isLine_11 : decode cX6_isLine 11 = .ok (.getfield 7, 3) := by decide +kernel
theorem dX6_isLine_14 : decode cX6_isLine 14 = .ok (.iconst 1, 1) := by decide +kernel
theorem dX6_isLine_15 : decode cX6_isLine 15 = .ok (.iload_n 1, 1) := by decide +kernel
theorem dX6_isLine_16 : decode cX6_isLine 16 = .ok (.iadd, 1) := by decide +kernel
theorem dX6_isLine_17 : decode cX6_isLine 17 = .ok (.iaload, 1) := by decide +kernel
theorem dX6_isLine_18 : decode cX6_isLine 18 = .ok (.iconst 1, 1) := by decide +kernel
theorem dX6_isLine_19 : decode cX6_isLine 19 = .ok (.isub, 1) := by decide +kernel
theorem dX6_isLine_20 : decode cX6_isLine 20 = .ok (.i2l, 1) := by decide +kernel
theorem dX6_isLine_21 : decode cX6_isLine 21 = .ok (.invokestatic 64, 3) := by decide +kernel
theorem dX6_isLine_24 : decode cX6_isLine 24 = .ok (.ifCond .eq 7, 3) := by decide +kernel
theorem dX6_isLine_27 : decode cX6_isLine 27 = .ok (.iconst 1, 1) := by decide +kernel
theorem dX6_isLine_28 : decode cX6_isLine 28 = .ok (.goto 4, 3) := by decide +kernel
theorem dX6_isLine_31 : decode cX6_isLine 31 = .ok (.iconst 0, 1) := by decide +kernel
theorem dX6_isLine_32 : decode cX6_isLine 32 = .ok (.ireturn, 1) := by decide +kernel
theorem dX6_isTimes_0 : decode cX6_isTimes 0 = .ok (.iload_n 1, 1) := by decide +kernel
theorem dX6_isTimes_1 : decode cX6_isTimes 1 = .ok (.i2l, 1) := by decide +kernel
theorem dX6_isTimes_2 : decode cX6_isTimes 2 = .ok (.lconst 1, 1) := by decide +kernel
theorem dX6_isTimes_3 : decode cX6_isTimes 3 = .ok (.aload_n 0, 1) := by decide +kernel
theorem dX6_isTimes_4 : decode cX6_isTimes 4 = .ok (.getfield 7, 3) := by decide +kernel
theorem dX6_isTimes_7 : decode cX6_isTimes 7 = .ok (.iconst 0, 1) := by decide +kernel
theorem dX6_isTimes_8 : decode cX6_isTimes 8 = .ok (.iaload, 1) := by decide +kernel
theorem dX6_isTimes_9 : decode cX6_isTimes 9 = .ok (.iconst 1, 1) := by decide +kernel
theorem dX6_isTimes_10 : decode cX6_isTimes 10 = .ok (.isub, 1) := by decide +kernel
theorem dX6_isTimes_11 : decode cX6_isTimes 11 = .ok (.i2l, 1) := by decide +kernel
theorem dX6_isTimes_12 : decode cX6_isTimes 12 = .ok (.invokestatic 64, 3) := by decide +kernel
theorem dX6_isTimes_15 : decode cX6_isTimes 15 = .ok (.ireturn, 1) := by decide +kernel
theorem dX6_lineOf_0 : decode cX6_lineOf 0 = .ok (.iload_n 2, 1) := by decide +kernel
theorem dX6_lineOf_1 : decode cX6_lineOf 1 = .ok (.ifCond .ne 14, 3) := by decide +kernel
theorem dX6_lineOf_4 : decode cX6_lineOf 4 = .ok (.aload_n 0, 1) := by decide +kernel
theorem dX6_lineOf_5 : decode cX6_lineOf 5 = .ok (.iload_n 1, 1) := by decide +kernel
theorem dX6_lineOf_6 : decode cX6_lineOf 6 = .ok (.iload_n 3, 1) := by decide +kernel
theorem dX6_lineOf_7 : decode cX6_lineOf 7 = .ok (.iload 4, 2) := by decide +kernel
theorem dX6_lineOf_9 : decode cX6_lineOf 9 = .ok (.invokevirtual 150, 3) := by decide +kernel
theorem dX6_lineOf_12 : decode cX6_lineOf 12 = .ok (.goto 11, 3) := by decide +kernel
theorem dX6_lineOf_15 : decode cX6_lineOf 15 = .ok (.aload_n 0, 1) := by decide +kernel
theorem dX6_lineOf_16 : decode cX6_lineOf 16 = .ok (.iload_n 1, 1) := by decide +kernel
theorem dX6_lineOf_17 : decode cX6_lineOf 17 = .ok (.iload 4, 2) := by decide +kernel
theorem dX6_lineOf_19 : decode cX6_lineOf 19 = .ok (.iload_n 3, 1) := by decide +kernel
theorem dX6_lineOf_20 : decode cX6_lineOf 20 = .ok (.invokevirtual 150, 3) := by decide +kernel
theorem dX6_lineOf_23 : decode cX6_lineOf 23 = .ok (.ireturn, 1) := by decide +kernel
theorem dX6_lineBecomes_0 : decode cX6_lineBecomes 0 = .ok (.aload_n 0, 1) := by decide +kernel
theorem dX6_lineBecomes_1 : decode cX6_lineBecomes 1 = .ok (.iload_n 1, 1) := by decide +kernel
theorem dX6_lineBecomes_2 : decode cX6_lineBecomes 2 = .ok (.iload_n 2, 1) := by decide +kernel
theorem dX6_lineBecomes_3 : decode cX6_lineBecomes 3 = .ok (.ifCond .ne 7, 3) := by decide +kernel
theorem dX6_lineBecomes_6 : decode cX6_lineBecomes 6 = .ok (.iload_n 3, 1) := by decide +kernel
theorem dX6_lineBecomes_7 : decode cX6_lineBecomes 7 = .ok (.goto 5, 3) := by decide +kernel
theorem dX6_lineBecomes_10 : decode cX6_lineBecomes 10 = .ok (.iload 4, 2) := by decide +kernel
theorem dX6_lineBecomes_12 : decode cX6_lineBecomes 12 = .ok (.iload_n 2, 1) := by decide +kernel
theorem dX6_lineBecomes_13 : decode cX6_lineBecomes 13 = .ok (.ifCond .ne 8, 3) := by decide +kernel
theorem dX6_lineBecomes_16 : decode cX6_lineBecomes 16 = .ok (.iload 4, 2) := by decide +kernel
theorem dX6_lineBecomes_18 : decode cX6_lineBecomes 18 = .ok (.goto 4, 3) := by decide +kernel
theorem dX6_lineBecomes_21 : decode cX6_lineBecomes 21 = .ok (.iload_n 3, 1) := by decide +kernel
theorem dX6_lineBecomes_22 : decode cX6_lineBecomes 22 = .ok (.aload_n 0, 1) := by decide +kernel
theorem dX6_lineBecomes_23 : decode cX6_lineBecomes 23 = .ok (.iload 5, 2) := by decide +kernel
theorem dX6_lineBecomes_25 : decode cX6_lineBecomes 25 = .ok (.invokevirtual 169, 3) := by decide +kernel
theorem dX6_lineBecomes_28 : decode cX6_lineBecomes 28 = .ok (.invokevirtual 265, 3) := by decide +kernel
theorem dX6_lineBecomes_31 : decode cX6_lineBecomes 31 = .ok (.return_, 1) := by decide +kernel
theorem dX6_mix_0 : decode cX6_mix 0 = .ok (.aload_n 0, 1) := by decide +kernel
theorem dX6_mix_1 : decode cX6_mix 1 = .ok (.iload_n 1, 1) := by decide +kernel
theorem dX6_mix_2 : decode cX6_mix 2 = .ok (.iload_n 2, 1) := by decide +kernel
theorem dX6_mix_3 : decode cX6_mix 3 = .ok (.invokevirtual 271, 3) := by decide +kernel
theorem dX6_mix_6 : decode cX6_mix 6 = .ok (.ifCond .eq 26, 3) := by decide +kernel
theorem dX6_mix_9 : decode cX6_mix 9 = .ok (.aload_n 0, 1) := by decide +kernel
theorem dX6_mix_10 : decode cX6_mix 10 = .ok (.iload_n 1, 1) := by decide +kernel
theorem dX6_mix_11 : decode cX6_mix 11 = .ok (.iload_n 3, 1) := by decide +kernel
theorem dX6_mix_12 : decode cX6_mix 12 = .ok (.invokevirtual 271, 3) := by decide +kernel
theorem dX6_mix_15 : decode cX6_mix 15 = .ok (.ifCond .eq 17, 3) := by decide +kernel
theorem dX6_mix_18 : decode cX6_mix 18 = .ok (.iload_n 2, 1) := by decide +kernel
theorem dX6_mix_19 : decode cX6_mix 19 = .ok (.iload_n 3, 1) := by decide +kernel
theorem dX6_mix_20 : decode cX6_mix 20 = .ok (.if_icmp .eq 12, 3) := by decide +kernel
theorem dX6_mix_23 : decode cX6_mix 23 = .ok (.aload_n 0, 1) := by decide +kernel
theorem dX6_mix_24 : decode cX6_mix 24 = .ok (.iload 4, 2) := by decide +kernel
theorem dX6_mix_26 : decode cX6_mix 26 = .ok (.invokevirtual 274, 3) := by decide +kernel
theorem dX6_mix_29 : decode cX6_mix 29 = .ok (.ifCond .ne 5, 3) := by decide +kernel
theorem dX6_mix_32 : decode cX6_mix 32 = .ok (.iconst (-1), 1) := by decide +kernel
theorem dX6_mix_33 : decode cX6_mix 33 = .ok (.ireturn, 1) := by decide +kernel
theorem dX6_mix_34 : decode cX6_mix 34 = .ok (.iconst 0, 1) := by decide +kernel
theorem dX6_mix_35 : decode cX6_mix 35 = .ok (.istore 5, 2) := by decide +kernel
theorem dX6_mix_37 : decode cX6_mix 37 = .ok (.iload 5, 2) := by decide +kernel
theorem dX6_mix_39 : decode cX6_mix 39 = .ok (.iconst 2, 1) := by decide +kernel
theorem dX6_mix_40 : decode cX6_mix 40 = .ok (.if_icmp .ge 65, 3) := by decide +kernel
theorem dX6_mix_43 : decode cX6_mix 43 = .ok (.iconst 0, 1) := by decide +kernel
theorem dX6_mix_44 : decode cX6_mix 44 = .ok (.istore 6, 2) := by decide +kernel
theorem dX6_mix_46 : decode cX6_mix 46 = .ok (.iload 6, 2) := by decide +kernel
theorem dX6_mix_48 : decode cX6_mix 48 = .ok (.aload_n 0, 1) := by decide +kernel
theorem dX6_mix_49 : decode cX6_mix 49 = .ok (.getfield 7, 3) := by decide +kernel
theorem dX6_mix_52 : decode cX6_mix 52 = .ok (.iconst 2, 1) := by decide +kernel
theorem dX6_mix_53 : decode cX6_mix 53 = .ok (.iload_n 1, 1) := by decide +kernel
theorem dX6_mix_54 : decode cX6_mix 54 = .ok (.isub, 1) := by decide +kernel
theorem dX6_mix_55 : decode cX6_mix 55 = .ok (.iaload, 1) := by decide +kernel
theorem dX6_mix_56 : decode cX6_mix 56 = .ok (.if_icmp .ge 43, 3) := by decide +kernel
theorem dX6_mix_59 : decode cX6_mix 59 = .ok (.aload_n 0, 1) := by decide +kernel
theorem dX6_mix_60 : decode cX6_mix 60 = .ok (.iload 5, 2) := by decide +kernel
theorem dX6_mix_62 : decode cX6_mix 62 = .ok (.iload_n 1, 1) := by decide +kernel
theorem dX6_mix_63 : decode cX6_mix 63 = .ok (.iload_n 2, 1) := by decide +kernel
theorem dX6_mix_64 : decode cX6_mix 64 = .ok (.iload 6, 2) := by decide +kernel
theorem dX6_mix_66 : decode cX6_mix 66 = .ok (.aload_n 0, 1) := by decide +kernel
theorem dX6_mix_67 : decode cX6_mix 67 = .ok (.iload 5, 2) := by decide +kernel
theorem dX6_mix_69 : decode cX6_mix 69 = .ok (.iload_n 1, 1) := by decide +kernel
theorem dX6_mix_70 : decode cX6_mix 70 = .ok (.iload_n 2, 1) := by decide +kernel
theorem dX6_mix_71 : decode cX6_mix 71 = .ok (.iload 6, 2) := by decide +kernel
theorem dX6_mix_73 : decode cX6_mix 73 = .ok (.invokevirtual 277, 3) := by decide +kernel
theorem dX6_mix_76 : decode cX6_mix 76 = .ok (.iload 4, 2) := by decide +kernel
theorem dX6_mix_78 : decode cX6_mix 78 = .ok (.aload_n 0, 1) := by decide +kernel
theorem dX6_mix_79 : decode cX6_mix 79 = .ok (.iload 5, 2) := by decide +kernel
theorem dX6_mix_81 : decode cX6_mix 81 = .ok (.iload_n 1, 1) := by decide +kernel
theorem dX6_mix_82 : decode cX6_mix 82 = .ok (.iload_n 3, 1) := by decide +kernel
theorem dX6_mix_83 : decode cX6_mix 83 = .ok (.iload 6, 2) := by decide +kernel
theorem dX6_mix_85 : decode cX6_mix 85 = .ok (.invokevirtual 277, 3) := by decide +kernel
theorem dX6_mix_88 : decode cX6_mix 88 = .ok (.imul, 1) := by decide +kernel
theorem dX6_mix_89 : decode cX6_mix 89 = .ok (.iadd, 1) := by decide +kernel
theorem dX6_mix_90 : decode cX6_mix 90 = .ok (.invokevirtual 281, 3) := by decide +kernel
theorem dX6_mix_93 : decode cX6_mix 93 = .ok (.iinc 6 1, 3) := by decide +kernel
theorem dX6_mix_96 : decode cX6_mix 96 = .ok (.goto (-50), 3) := by decide +kernel
theorem dX6_mix_99 : decode cX6_mix 99 = .ok (.iinc 5 1, 3) := by decide +kernel
theorem dX6_mix_102 : decode cX6_mix 102 = .ok (.goto (-65), 3) := by decide +kernel
theorem dX6_mix_105 : decode cX6_mix 105 = .ok (.iconst 1, 1) := by decide +kernel
theorem dX6_mix_106 : decode cX6_mix 106 = .ok (.ireturn, 1) := by decide +kernel
theorem dX6_times_0 : decode cX6_times 0 = .ok (.aload_n 0, 1) := by decide +kernel
theorem dX6_times_1 : decode cX6_times 1 = .ok (.iload_n 1, 1) := by decide +kernel
theorem dX6_times_2 : decode cX6_times 2 = .ok (.iload_n 2, 1) := by decide +kernel
theorem dX6_times_3 : decode cX6_times 3 = .ok (.invokevirtual 271, 3) := by decide +kernel
theorem dX6_times_6 : decode cX6_times 6 = .ok (.ifCond .eq 11, 3) := by decide +kernel
theorem dX6_times_9 : decode cX6_times 9 = .ok (.aload_n 0, 1) := by decide +kernel
theorem dX6_times_10 : decode cX6_times 10 = .ok (.iload_n 3, 1) := by decide +kernel
theorem dX6_times_11 : decode cX6_times 11 = .ok (.invokevirtual 274, 3) := by decide +kernel
theorem dX6_times_14 : decode cX6_times 14 = .ok (.ifCond .ne 5, 3) := by decide +kernel
theorem dX6_times_17 : decode cX6_times 17 = .ok (.iconst (-1), 1) := by decide +kernel
theorem dX6_times_18 : decode cX6_times 18 = .ok (.ireturn, 1) := by decide +kernel
theorem dX6_times_19 : decode cX6_times 19 = .ok (.iconst 0, 1) := by decide +kernel
theorem dX6_times_20 : decode cX6_times 20 = .ok (.istore 4, 2) := by decide +kernel
theorem dX6_times_22 : decode cX6_times 22 = .ok (.iload 4, 2) := by decide +kernel
theorem dX6_times_24 : decode cX6_times 24 = .ok (.iconst 2, 1) := by decide +kernel
theorem dX6_times_25 : decode cX6_times 25 = .ok (.if_icmp .ge 53, 3) := by decide +kernel
theorem dX6_times_28 : decode cX6_times 28 = .ok (.iconst 0, 1) := by decide +kernel
theorem dX6_times_29 : decode cX6_times 29 = .ok (.istore 5, 2) := by decide +kernel
theorem dX6_times_31 : decode cX6_times 31 = .ok (.iload 5, 2) := by decide +kernel
theorem dX6_times_33 : decode cX6_times 33 = .ok (.aload_n 0, 1) := by decide +kernel
theorem dX6_times_34 : decode cX6_times 34 = .ok (.getfield 7, 3) := by decide +kernel
theorem dX6_times_37 : decode cX6_times 37 = .ok (.iconst 2, 1) := by decide +kernel
theorem dX6_times_38 : decode cX6_times 38 = .ok (.iload_n 1, 1) := by decide +kernel
theorem dX6_times_39 : decode cX6_times 39 = .ok (.isub, 1) := by decide +kernel
theorem dX6_times_40 : decode cX6_times 40 = .ok (.iaload, 1) := by decide +kernel
theorem dX6_times_41 : decode cX6_times 41 = .ok (.if_icmp .ge 31, 3) := by decide +kernel
theorem dX6_times_44 : decode cX6_times 44 = .ok (.aload_n 0, 1) := by decide +kernel
theorem dX6_times_45 : decode cX6_times 45 = .ok (.iload 4, 2) := by decide +kernel
theorem dX6_times_47 : decode cX6_times 47 = .ok (.iload_n 1, 1) := by decide +kernel
theorem dX6_times_48 : decode cX6_times 48 = .ok (.iload_n 2, 1) := by decide +kernel
theorem dX6_times_49 : decode cX6_times 49 = .ok (.iload 5, 2) := by decide +kernel
theorem dX6_times_51 : decode cX6_times 51 = .ok (.iload_n 3, 1) := by decide +kernel
theorem dX6_times_52 : decode cX6_times 52 = .ok (.aload_n 0, 1) := by decide +kernel
theorem dX6_times_53 : decode cX6_times 53 = .ok (.iload 4, 2) := by decide +kernel
theorem dX6_times_55 : decode cX6_times 55 = .ok (.iload_n 1, 1) := by decide +kernel
theorem dX6_times_56 : decode cX6_times 56 = .ok (.iload_n 2, 1) := by decide +kernel
theorem dX6_times_57 : decode cX6_times 57 = .ok (.iload 5, 2) := by decide +kernel
theorem dX6_times_59 : decode cX6_times 59 = .ok (.invokevirtual 277, 3) := by decide +kernel
theorem dX6_times_62 : decode cX6_times 62 = .ok (.imul, 1) := by decide +kernel
theorem dX6_times_63 : decode cX6_times 63 = .ok (.invokevirtual 281, 3) := by decide +kernel
theorem dX6_times_66 : decode cX6_times 66 = .ok (.iinc 5 1, 3) := by decide +kernel
theorem dX6_times_69 : decode cX6_times 69 = .ok (.goto (-38), 3) := by decide +kernel
theorem dX6_times_72 : decode cX6_times 72 = .ok (.iinc 4 1, 3) := by decide +kernel
theorem dX6_times_75 : decode cX6_times 75 = .ok (.goto (-53), 3) := by decide +kernel
theorem dX6_times_78 : decode cX6_times 78 = .ok (.iconst 1, 1) := by decide +kernel
theorem dX6_times_79 : decode cX6_times 79 = .ok (.ireturn, 1) := by decide +kernel
theorem dX6_swap_0 : decode cX6_swap 0 = .ok (.aload_n 0, 1) := by decide +kernel
theorem dX6_swap_1 : decode cX6_swap 1 = .ok (.iload_n 1, 1) := by decide +kernel
theorem dX6_swap_2 : decode cX6_swap 2 = .ok (.iload_n 2, 1) := by decide +kernel
theorem dX6_swap_3 : decode cX6_swap 3 = .ok (.invokevirtual 271, 3) := by decide +kernel
theorem dX6_swap_6 : decode cX6_swap 6 = .ok (.ifCond .eq 12, 3) := by decide +kernel
theorem dX6_swap_9 : decode cX6_swap 9 = .ok (.aload_n 0, 1) := by decide +kernel
theorem dX6_swap_10 : decode cX6_swap 10 = .ok (.iload_n 1, 1) := by decide +kernel
theorem dX6_swap_11 : decode cX6_swap 11 = .ok (.iload_n 3, 1) := by decide +kernel
theorem dX6_swap_12 : decode cX6_swap 12 = .ok (.invokevirtual 271, 3) := by decide +kernel
theorem dX6_swap_15 : decode cX6_swap 15 = .ok (.ifCond .ne 5, 3) := by decide +kernel
theorem dX6_swap_18 : decode cX6_swap 18 = .ok (.iconst (-1), 1) := by decide +kernel
theorem dX6_swap_19 : decode cX6_swap 19 = .ok (.ireturn, 1) := by decide +kernel
theorem dX6_swap_20 : decode cX6_swap 20 = .ok (.iconst 0, 1) := by decide +kernel
theorem dX6_swap_21 : decode cX6_swap 21 = .ok (.istore 4, 2) := by decide +kernel
theorem dX6_swap_23 : decode cX6_swap 23 = .ok (.iload 4, 2) := by decide +kernel
theorem dX6_swap_25 : decode cX6_swap 25 = .ok (.iconst 2, 1) := by decide +kernel
theorem dX6_swap_26 : decode cX6_swap 26 = .ok (.if_icmp .ge 75, 3) := by decide +kernel
theorem dX6_swap_29 : decode cX6_swap 29 = .ok (.iconst 0, 1) := by decide +kernel
theorem dX6_swap_30 : decode cX6_swap 30 = .ok (.istore 5, 2) := by decide +kernel
theorem dX6_swap_32 : decode cX6_swap 32 = .ok (.iload 5, 2) := by decide +kernel
theorem dX6_swap_34 : decode cX6_swap 34 = .ok (.aload_n 0, 1) := by decide +kernel
theorem dX6_swap_35 : decode cX6_swap 35 = .ok (.getfield 7, 3) := by decide +kernel
theorem dX6_swap_38 : decode cX6_swap 38 = .ok (.iconst 2, 1) := by decide +kernel
theorem dX6_swap_39 : decode cX6_swap 39 = .ok (.iload_n 1, 1) := by decide +kernel
theorem dX6_swap_40 : decode cX6_swap 40 = .ok (.isub, 1) := by decide +kernel
theorem dX6_swap_41 : decode cX6_swap 41 = .ok (.iaload, 1) := by decide +kernel
theorem dX6_swap_42 : decode cX6_swap 42 = .ok (.if_icmp .ge 53, 3) := by decide +kernel
theorem dX6_swap_45 : decode cX6_swap 45 = .ok (.aload_n 0, 1) := by decide +kernel
theorem dX6_swap_46 : decode cX6_swap 46 = .ok (.iload 4, 2) := by decide +kernel
theorem dX6_swap_48 : decode cX6_swap 48 = .ok (.iload_n 1, 1) := by decide +kernel
theorem dX6_swap_49 : decode cX6_swap 49 = .ok (.iload_n 2, 1) := by decide +kernel
theorem dX6_swap_50 : decode cX6_swap 50 = .ok (.iload 5, 2) := by decide +kernel
theorem dX6_swap_52 : decode cX6_swap 52 = .ok (.invokevirtual 277, 3) := by decide +kernel
theorem dX6_swap_55 : decode cX6_swap 55 = .ok (.istore 6, 2) := by decide +kernel
theorem dX6_swap_57 : decode cX6_swap 57 = .ok (.aload_n 0, 1) := by decide +kernel
theorem dX6_swap_58 : decode cX6_swap 58 = .ok (.iload 4, 2) := by decide +kernel
theorem dX6_swap_60 : decode cX6_swap 60 = .ok (.iload_n 1, 1) := by decide +kernel
theorem dX6_swap_61 : decode cX6_swap 61 = .ok (.iload_n 2, 1) := by decide +kernel
theorem dX6_swap_62 : decode cX6_swap 62 = .ok (.iload 5, 2) := by decide +kernel
theorem dX6_swap_64 : decode cX6_swap 64 = .ok (.aload_n 0, 1) := by decide +kernel
theorem dX6_swap_65 : decode cX6_swap 65 = .ok (.iload 4, 2) := by decide +kernel
theorem dX6_swap_67 : decode cX6_swap 67 = .ok (.iload_n 1, 1) := by decide +kernel
theorem dX6_swap_68 : decode cX6_swap 68 = .ok (.iload_n 3, 1) := by decide +kernel
theorem dX6_swap_69 : decode cX6_swap 69 = .ok (.iload 5, 2) := by decide +kernel
theorem dX6_swap_71 : decode cX6_swap 71 = .ok (.invokevirtual 277, 3) := by decide +kernel
theorem dX6_swap_74 : decode cX6_swap 74 = .ok (.invokevirtual 281, 3) := by decide +kernel
theorem dX6_swap_77 : decode cX6_swap 77 = .ok (.aload_n 0, 1) := by decide +kernel
theorem dX6_swap_78 : decode cX6_swap 78 = .ok (.iload 4, 2) := by decide +kernel
theorem dX6_swap_80 : decode cX6_swap 80 = .ok (.iload_n 1, 1) := by decide +kernel
theorem dX6_swap_81 : decode cX6_swap 81 = .ok (.iload_n 3, 1) := by decide +kernel
theorem dX6_swap_82 : decode cX6_swap 82 = .ok (.iload 5, 2) := by decide +kernel
theorem dX6_swap_84 : decode cX6_swap 84 = .ok (.iload 6, 2) := by decide +kernel
theorem dX6_swap_86 : decode cX6_swap 86 = .ok (.invokevirtual 281, 3) := by decide +kernel
theorem dX6_swap_89 : decode cX6_swap 89 = .ok (.iinc 5 1, 3) := by decide +kernel
theorem dX6_swap_92 : decode cX6_swap 92 = .ok (.goto (-60), 3) := by decide +kernel
theorem dX6_swap_95 : decode cX6_swap 95 = .ok (.iinc 4 1, 3) := by decide +kernel
theorem dX6_swap_98 : decode cX6_swap 98 = .ok (.goto (-75), 3) := by decide +kernel
theorem dX6_swap_101 : decode cX6_swap 101 = .ok (.iconst 1, 1) := by decide +kernel
theorem dX6_swap_102 : decode cX6_swap 102 = .ok (.ireturn, 1) := by decide +kernel
theorem dX6_scramble_0 : decode cX6_scramble 0 = .ok (.iload_n 2, 1) := by decide +kernel
theorem dX6_scramble_1 : decode cX6_scramble 1 = .ok (.i2l, 1) := by decide +kernel
theorem dX6_scramble_2 : decode cX6_scramble 2 = .ok (.lconst 0, 1) := by decide +kernel
theorem dX6_scramble_3 : decode cX6_scramble 3 = .ok (.ldc2_w 285, 3) := by decide +kernel
theorem dX6_scramble_6 : decode cX6_scramble 6 = .ok (.invokestatic 64, 3) := by decide +kernel
theorem dX6_scramble_9 : decode cX6_scramble 9 = .ok (.ifCond .ne 5, 3) := by decide +kernel
theorem dX6_scramble_12 : decode cX6_scramble 12 = .ok (.iconst (-1), 1) := by decide +kernel
theorem dX6_scramble_13 : decode cX6_scramble 13 = .ok (.ireturn, 1) := by decide +kernel
theorem dX6_scramble_14 : decode cX6_scramble 14 = .ok (.iload_n 1, 1) := by decide +kernel
theorem dX6_scramble_15 : decode cX6_scramble 15 = .ok (.istore_n 3, 1) := by decide +kernel
theorem dX6_scramble_16 : decode cX6_scramble 16 = .ok (.iconst 0, 1) := by decide +kernel
theorem dX6_scramble_17 : decode cX6_scramble 17 = .ok (.istore 4, 2) := by decide +kernel
theorem dX6_scramble_19 : decode cX6_scramble 19 = .ok (.iconst 0, 1) := by decide +kernel
theorem dX6_scramble_20 : decode cX6_scramble 20 = .ok (.istore 5, 2) := by decide +kernel
theorem dX6_scramble_22 : decode cX6_scramble 22 = .ok (.iload 5, 2) := by decide +kernel
theorem dX6_scramble_24 : decode cX6_scramble 24 = .ok (.iload_n 2, 1) := by decide +kernel
theorem dX6_scramble_25 : decode cX6_scramble 25 = .ok (.if_icmp .ge 101, 3) := by decide +kernel
theorem dX6_scramble_28 : decode cX6_scramble 28 = .ok (.iload_n 3, 1) := by decide +kernel
theorem dX6_scramble_29 : decode cX6_scramble 29 = .ok (.ldc_w 287, 3) := by decide +kernel
theorem dX6_scramble_32 : decode cX6_scramble 32 = .ok (.imul, 1) := by decide +kernel
theorem dX6_scramble_33 : decode cX6_scramble 33 = .ok (.sipush 12345, 3) := by decide +kernel
theorem dX6_scramble_36 : decode cX6_scramble 36 = .ok (.iadd, 1) := by decide +kernel
theorem dX6_scramble_37 : decode cX6_scramble 37 = .ok (.istore_n 3, 1) := by decide +kernel
theorem dX6_scramble_38 : decode cX6_scramble 38 = .ok (.iload_n 3, 1) := by decide +kernel
theorem dX6_scramble_39 : decode cX6_scramble 39 = .ok (.bipush 16, 2) := by decide +kernel
theorem dX6_scramble_41 : decode cX6_scramble 41 = .ok (.ishr, 1) := by decide +kernel
theorem dX6_scramble_42 : decode cX6_scramble 42 = .ok (.sipush 32767, 3) := by decide +kernel
theorem dX6_scramble_45 : decode cX6_scramble 45 = .ok (.iand, 1) := by decide +kernel
theorem dX6_scramble_46 : decode cX6_scramble 46 = .ok (.istore 6, 2) := by decide +kernel
theorem dX6_scramble_48 : decode cX6_scramble 48 = .ok (.iload 6, 2) := by decide +kernel
theorem dX6_scramble_50 : decode cX6_scramble 50 = .ok (.iconst 2, 1) := by decide +kernel
theorem dX6_scramble_51 : decode cX6_scramble 51 = .ok (.irem, 1) := by decide +kernel
theorem dX6_scramble_52 : decode cX6_scramble 52 = .ok (.istore 7, 2) := by decide +kernel
theorem dX6_scramble_54 : decode cX6_scramble 54 = .ok (.aload_n 0, 1) := by decide +kernel
theorem dX6_scramble_55 : decode cX6_scramble 55 = .ok (.getfield 7, 3) := by decide +kernel
theorem dX6_scramble_58 : decode cX6_scramble 58 = .ok (.iconst 1, 1) := by decide +kernel
theorem dX6_scramble_59 : decode cX6_scramble 59 = .ok (.iload 7, 2) := by decide +kernel
theorem dX6_scramble_61 : decode cX6_scramble 61 = .ok (.iadd, 1) := by decide +kernel
theorem dX6_scramble_62 : decode cX6_scramble 62 = .ok (.iaload, 1) := by decide +kernel
theorem dX6_scramble_63 : decode cX6_scramble 63 = .ok (.istore 8, 2) := by decide +kernel
theorem dX6_scramble_65 : decode cX6_scramble 65 = .ok (.iload 8, 2) := by decide +kernel
theorem dX6_scramble_67 : decode cX6_scramble 67 = .ok (.ifCond .le 53, 3) := by decide +kernel
theorem dX6_scramble_70 : decode cX6_scramble 70 = .ok (.iload 4, 2) := by decide +kernel
theorem dX6_scramble_72 : decode cX6_scramble 72 = .ok (.aload_n 0, 1) := by decide +kernel
theorem dX6_scramble_73 : decode cX6_scramble 73 = .ok (.iload 7, 2) := by decide +kernel
theorem dX6_scramble_75 : decode cX6_scramble 75 = .ok (.iload 6, 2) := by decide +kernel
theorem dX6_scramble_77 : decode cX6_scramble 77 = .ok (.iconst 2, 1) := by decide +kernel
theorem dX6_scramble_78 : decode cX6_scramble 78 = .ok (.idiv, 1) := by decide +kernel
theorem dX6_scramble_79 : decode cX6_scramble 79 = .ok (.iload 8, 2) := by decide +kernel
theorem dX6_scramble_81 : decode cX6_scramble 81 = .ok (.irem, 1) := by decide +kernel
theorem dX6_scramble_82 : decode cX6_scramble 82 = .ok (.iload 6, 2) := by decide +kernel
theorem dX6_scramble_84 : decode cX6_scramble 84 = .ok (.bipush 8, 2) := by decide +kernel
theorem dX6_scramble_86 : decode cX6_scramble 86 = .ok (.idiv, 1) := by decide +kernel
theorem dX6_scramble_87 : decode cX6_scramble 87 = .ok (.iload 8, 2) := by decide +kernel
theorem dX6_scramble_89 : decode cX6_scramble 89 = .ok (.irem, 1) := by decide +kernel
theorem dX6_scramble_90 : decode cX6_scramble 90 = .ok (.iload 6, 2) := by decide +kernel
theorem dX6_scramble_92 : decode cX6_scramble 92 = .ok (.bipush 32, 2) := by decide +kernel
theorem dX6_scramble_94 : decode cX6_scramble 94 = .ok (.idiv, 1) := by decide +kernel
theorem dX6_scramble_95 : decode cX6_scramble 95 = .ok (.aload_n 0, 1) := by decide +kernel
theorem dX6_scramble_96 : decode cX6_scramble 96 = .ok (.getfield 7, 3) := by decide +kernel
theorem dX6_scramble_99 : decode cX6_scramble 99 = .ok (.iconst 0, 1) := by decide +kernel
theorem dX6_scramble_100 : decode cX6_scramble 100 = .ok (.iaload, 1) := by decide +kernel
theorem dX6_scramble_101 : decode cX6_scramble 101 = .ok (.irem, 1) := by decide +kernel
theorem dX6_scramble_102 : decode cX6_scramble 102 = .ok (.invokevirtual 288, 3) := by decide +kernel
theorem dX6_scramble_105 : decode cX6_scramble 105 = .ok (.iconst 1, 1) := by decide +kernel
theorem dX6_scramble_106 : decode cX6_scramble 106 = .ok (.if_icmp .ne 7, 3) := by decide +kernel
theorem dX6_scramble_109 : decode cX6_scramble 109 = .ok (.iconst 1, 1) := by decide +kernel
theorem dX6_scramble_110 : decode cX6_scramble 110 = .ok (.goto 4, 3) := by decide +kernel
theorem dX6_scramble_113 : decode cX6_scramble 113 = .ok (.iconst 0, 1) := by decide +kernel
theorem dX6_scramble_114 : decode cX6_scramble 114 = .ok (.invokestatic 214, 3) := by decide +kernel
theorem dX6_scramble_117 : decode cX6_scramble 117 = .ok (.iadd, 1) := by decide +kernel
theorem dX6_scramble_118 : decode cX6_scramble 118 = .ok (.istore 4, 2) := by decide +kernel
theorem dX6_scramble_120 : decode cX6_scramble 120 = .ok (.iinc 5 1, 3) := by decide +kernel
theorem dX6_scramble_123 : decode cX6_scramble 123 = .ok (.goto (-101), 3) := by decide +kernel
theorem dX6_scramble_126 : decode cX6_scramble 126 = .ok (.iload 4, 2) := by decide +kernel
theorem dX6_scramble_128 : decode cX6_scramble 128 = .ok (.ireturn, 1) := by decide +kernel
theorem dX6_sets1_0 : decode cX6_sets1 0 = .ok (.aload_n 0, 1) := by decide +kernel
theorem dX6_sets1_1 : decode cX6_sets1 1 = .ok (.getfield 41, 3) := by decide +kernel
theorem dX6_sets1_4 : decode cX6_sets1 4 = .ok (.iconst 3, 1) := by decide +kernel
theorem dX6_sets1_5 : decode cX6_sets1 5 = .ok (.bipush 16, 2) := by decide +kernel
theorem dX6_sets1_7 : decode cX6_sets1 7 = .ok (.iload_n 1, 1) := by decide +kernel
theorem dX6_sets1_8 : decode cX6_sets1 8 = .ok (.imul, 1) := by decide +kernel
theorem dX6_sets1_9 : decode cX6_sets1 9 = .ok (.iadd, 1) := by decide +kernel
theorem dX6_sets1_10 : decode cX6_sets1 10 = .ok (.iconst 4, 1) := by decide +kernel
theorem dX6_sets1_11 : decode cX6_sets1 11 = .ok (.iload_n 2, 1) := by decide +kernel
theorem dX6_sets1_12 : decode cX6_sets1 12 = .ok (.imul, 1) := by decide +kernel
theorem dX6_sets1_13 : decode cX6_sets1 13 = .ok (.iadd, 1) := by decide +kernel
theorem dX6_sets1_14 : decode cX6_sets1 14 = .ok (.iload_n 3, 1) := by decide +kernel
theorem dX6_sets1_15 : decode cX6_sets1 15 = .ok (.iadd, 1) := by decide +kernel
theorem dX6_sets1_16 : decode cX6_sets1 16 = .ok (.iload 4, 2) := by decide +kernel
theorem dX6_sets1_18 : decode cX6_sets1 18 = .ok (.iastore, 1) := by decide +kernel
theorem dX6_sets1_19 : decode cX6_sets1 19 = .ok (.return_, 1) := by decide +kernel
theorem dX6_turn_0 : decode cX6_turn 0 = .ok (.iload_n 1, 1) := by decide +kernel
theorem dX6_turn_1 : decode cX6_turn 1 = .ok (.i2l, 1) := by decide +kernel
theorem dX6_turn_2 : decode cX6_turn 2 = .ok (.lconst 0, 1) := by decide +kernel
theorem dX6_turn_3 : decode cX6_turn 3 = .ok (.ldc2_w 291, 3) := by decide +kernel
theorem dX6_turn_6 : decode cX6_turn 6 = .ok (.invokestatic 64, 3) := by decide +kernel
theorem dX6_turn_9 : decode cX6_turn 9 = .ok (.ifCond .ne 5, 3) := by decide +kernel
theorem dX6_turn_12 : decode cX6_turn 12 = .ok (.iconst (-1), 1) := by decide +kernel
theorem dX6_turn_13 : decode cX6_turn 13 = .ok (.ireturn, 1) := by decide +kernel
theorem dX6_turn_14 : decode cX6_turn 14 = .ok (.iconst 0, 1) := by decide +kernel
theorem dX6_turn_15 : decode cX6_turn 15 = .ok (.istore_n 2, 1) := by decide +kernel
theorem dX6_turn_16 : decode cX6_turn 16 = .ok (.iload_n 2, 1) := by decide +kernel
theorem dX6_turn_17 : decode cX6_turn 17 = .ok (.iconst 4, 1) := by decide +kernel
theorem dX6_turn_18 : decode cX6_turn 18 = .ok (.if_icmp .ge 129, 3) := by decide +kernel
theorem dX6_turn_21 : decode cX6_turn 21 = .ok (.iconst 0, 1) := by decide +kernel
theorem dX6_turn_22 : decode cX6_turn 22 = .ok (.istore_n 3, 1) := by decide +kernel
theorem dX6_turn_23 : decode cX6_turn 23 = .ok (.iload_n 3, 1) := by decide +kernel
theorem dX6_turn_24 : decode cX6_turn 24 = .ok (.iconst 4, 1) := by decide +kernel
theorem dX6_turn_25 : decode cX6_turn 25 = .ok (.if_icmp .ge 116, 3) := by decide +kernel
theorem dX6_turn_28 : decode cX6_turn 28 = .ok (.aload_n 0, 1) := by decide +kernel
theorem dX6_turn_29 : decode cX6_turn 29 = .ok (.iconst 0, 1) := by decide +kernel
theorem dX6_turn_30 : decode cX6_turn 30 = .ok (.iload_n 2, 1) := by decide +kernel
theorem dX6_turn_31 : decode cX6_turn 31 = .ok (.iload_n 3, 1) := by decide +kernel
theorem dX6_turn_32 : decode cX6_turn 32 = .ok (.invokevirtual 150, 3) := by decide +kernel
theorem dX6_turn_35 : decode cX6_turn 35 = .ok (.istore 4, 2) := by decide +kernel
theorem dX6_turn_37 : decode cX6_turn 37 = .ok (.aload_n 0, 1) := by decide +kernel
theorem dX6_turn_38 : decode cX6_turn 38 = .ok (.iconst 1, 1) := by decide +kernel
theorem dX6_turn_39 : decode cX6_turn 39 = .ok (.iload_n 2, 1) := by decide +kernel
theorem dX6_turn_40 : decode cX6_turn 40 = .ok (.iload_n 3, 1) := by decide +kernel
theorem dX6_turn_41 : decode cX6_turn 41 = .ok (.invokevirtual 150, 3) := by decide +kernel
theorem dX6_turn_44 : decode cX6_turn 44 = .ok (.istore 5, 2) := by decide +kernel
theorem dX6_turn_46 : decode cX6_turn 46 = .ok (.aload_n 0, 1) := by decide +kernel
theorem dX6_turn_47 : decode cX6_turn 47 = .ok (.iconst 0, 1) := by decide +kernel
theorem dX6_turn_48 : decode cX6_turn 48 = .ok (.iload_n 1, 1) := by decide +kernel
theorem dX6_turn_49 : decode cX6_turn 49 = .ok (.iconst 1, 1) := by decide +kernel
theorem dX6_turn_50 : decode cX6_turn 50 = .ok (.if_icmp .ne 7, 3) := by decide +kernel
theorem dX6_turn_53 : decode cX6_turn 53 = .ok (.iload_n 3, 1) := by decide +kernel
theorem dX6_turn_54 : decode cX6_turn 54 = .ok (.goto 4, 3) := by decide +kernel
theorem dX6_turn_57 : decode cX6_turn 57 = .ok (.iload_n 2, 1) := by decide +kernel
theorem dX6_turn_58 : decode cX6_turn 58 = .ok (.iload_n 1, 1) := by decide +kernel
theorem dX6_turn_59 : decode cX6_turn 59 = .ok (.iconst 1, 1) := by decide +kernel
theorem dX6_turn_60 : decode cX6_turn 60 = .ok (.if_icmp .ne 7, 3) := by decide +kernel
theorem dX6_turn_63 : decode cX6_turn 63 = .ok (.iload_n 2, 1) := by decide +kernel
theorem dX6_turn_64 : decode cX6_turn 64 = .ok (.goto 4, 3) := by decide +kernel
theorem dX6_turn_67 : decode cX6_turn 67 = .ok (.iload_n 3, 1) := by decide +kernel
theorem dX6_turn_68 : decode cX6_turn 68 = .ok (.iload_n 1, 1) := by decide +kernel
theorem dX6_turn_69 : decode cX6_turn 69 = .ok (.ifCond .ne 8, 3) := by decide +kernel
theorem dX6_turn_72 : decode cX6_turn 72 = .ok (.iload 5, 2) := by decide +kernel
theorem dX6_turn_74 : decode cX6_turn 74 = .ok (.goto 22, 3) := by decide +kernel
theorem dX6_turn_77 : decode cX6_turn 77 = .ok (.iload_n 1, 1) := by decide +kernel
theorem dX6_turn_78 : decode cX6_turn 78 = .ok (.iconst 2, 1) := by decide +kernel
theorem dX6_turn_79 : decode cX6_turn 79 = .ok (.if_icmp .ne 15, 3) := by decide +kernel
theorem dX6_turn_82 : decode cX6_turn 82 = .ok (.aload_n 0, 1) := by decide +kernel
theorem dX6_turn_83 : decode cX6_turn 83 = .ok (.iload 4, 2) := by decide +kernel
theorem dX6_turn_85 : decode cX6_turn 85 = .ok (.iload 5, 2) := by decide +kernel
theorem dX6_turn_87 : decode cX6_turn 87 = .ok (.isub, 1) := by decide +kernel
theorem dX6_turn_88 : decode cX6_turn 88 = .ok (.invokevirtual 169, 3) := by decide +kernel
theorem dX6_turn_91 : decode cX6_turn 91 = .ok (.goto 5, 3) := by decide +kernel
theorem dX6_turn_94 : decode cX6_turn 94 = .ok (.iload 4, 2) := by decide +kernel
theorem dX6_turn_96 : decode cX6_turn 96 = .ok (.invokevirtual 293, 3) := by decide +kernel
theorem dX6_turn_99 : decode cX6_turn 99 = .ok (.aload_n 0, 1) := by decide +kernel
theorem dX6_turn_100 : decode cX6_turn 100 = .ok (.iconst 1, 1) := by decide +kernel
theorem dX6_turn_101 : decode cX6_turn 101 = .ok (.iload_n 1, 1) := by decide +kernel
theorem dX6_turn_102 : decode cX6_turn 102 = .ok (.iconst 1, 1) := by decide +kernel
theorem dX6_turn_103 : decode cX6_turn 103 = .ok (.if_icmp .ne 7, 3) := by decide +kernel
theorem dX6_turn_106 : decode cX6_turn 106 = .ok (.iload_n 3, 1) := by decide +kernel
theorem dX6_turn_107 : decode cX6_turn 107 = .ok (.goto 4, 3) := by decide +kernel
theorem dX6_turn_110 : decode cX6_turn 110 = .ok (.iload_n 2, 1) := by decide +kernel
theorem dX6_turn_111 : decode cX6_turn 111 = .ok (.iload_n 1, 1) := by decide +kernel
theorem dX6_turn_112 : decode cX6_turn 112 = .ok (.iconst 1, 1) := by decide +kernel
theorem dX6_turn_113 : decode cX6_turn 113 = .ok (.if_icmp .ne 7, 3) := by decide +kernel
theorem dX6_turn_116 : decode cX6_turn 116 = .ok (.iload_n 2, 1) := by decide +kernel
theorem dX6_turn_117 : decode cX6_turn 117 = .ok (.goto 4, 3) := by decide +kernel
theorem dX6_turn_120 : decode cX6_turn 120 = .ok (.iload_n 3, 1) := by decide +kernel
theorem dX6_turn_121 : decode cX6_turn 121 = .ok (.iload_n 1, 1) := by decide +kernel
theorem dX6_turn_122 : decode cX6_turn 122 = .ok (.ifCond .ne 8, 3) := by decide +kernel
theorem dX6_turn_125 : decode cX6_turn 125 = .ok (.iload 4, 2) := by decide +kernel
theorem dX6_turn_127 : decode cX6_turn 127 = .ok (.goto 5, 3) := by decide +kernel
theorem dX6_turn_130 : decode cX6_turn 130 = .ok (.iload 5, 2) := by decide +kernel
theorem dX6_turn_132 : decode cX6_turn 132 = .ok (.invokevirtual 293, 3) := by decide +kernel
theorem dX6_turn_135 : decode cX6_turn 135 = .ok (.iinc 3 1, 3) := by decide +kernel
theorem dX6_turn_138 : decode cX6_turn 138 = .ok (.goto (-115), 3) := by decide +kernel
theorem dX6_turn_141 : decode cX6_turn 141 = .ok (.iinc 2 1, 3) := by decide +kernel
theorem dX6_turn_144 : decode cX6_turn 144 = .ok (.goto (-128), 3) := by decide +kernel
theorem dX6_turn_147 : decode cX6_turn 147 = .ok (.iconst 3, 1) := by decide +kernel
theorem dX6_turn_148 : decode cX6_turn 148 = .ok (.istore_n 2, 1) := by decide +kernel
theorem dX6_turn_149 : decode cX6_turn 149 = .ok (.iload_n 2, 1) := by decide +kernel
theorem dX6_turn_150 : decode cX6_turn 150 = .ok (.bipush 35, 2) := by decide +kernel
theorem dX6_turn_152 : decode cX6_turn 152 = .ok (.if_icmp .ge 21, 3) := by decide +kernel
theorem dX6_turn_155 : decode cX6_turn 155 = .ok (.aload_n 0, 1) := by decide +kernel
theorem dX6_turn_156 : decode cX6_turn 156 = .ok (.getfield 7, 3) := by decide +kernel
theorem dX6_turn_159 : decode cX6_turn 159 = .ok (.iload_n 2, 1) := by decide +kernel
theorem dX6_turn_160 : decode cX6_turn 160 = .ok (.aload_n 0, 1) := by decide +kernel
theorem dX6_turn_161 : decode cX6_turn 161 = .ok (.getfield 41, 3) := by decide +kernel
theorem dX6_turn_164 : decode cX6_turn 164 = .ok (.iload_n 2, 1) := by decide +kernel
theorem dX6_turn_165 : decode cX6_turn 165 = .ok (.iaload, 1) := by decide +kernel
theorem dX6_turn_166 : decode cX6_turn 166 = .ok (.iastore, 1) := by decide +kernel
theorem dX6_turn_167 : decode cX6_turn 167 = .ok (.iinc 2 1, 3) := by decide +kernel
theorem dX6_turn_170 : decode cX6_turn 170 = .ok (.goto (-21), 3) := by decide +kernel
theorem dX6_turn_173 : decode cX6_turn 173 = .ok (.iload_n 1, 1) := by decide +kernel
theorem dX6_turn_174 : decode cX6_turn 174 = .ok (.iconst 1, 1) := by decide +kernel
theorem dX6_turn_175 : decode cX6_turn 175 = .ok (.if_icmp .ne 29, 3) := by decide +kernel
theorem dX6_turn_178 : decode cX6_turn 178 = .ok (.aload_n 0, 1) := by decide +kernel
theorem dX6_turn_179 : decode cX6_turn 179 = .ok (.getfield 7, 3) := by decide +kernel
theorem dX6_turn_182 : decode cX6_turn 182 = .ok (.iconst 1, 1) := by decide +kernel
theorem dX6_turn_183 : decode cX6_turn 183 = .ok (.iaload, 1) := by decide +kernel
theorem dX6_turn_184 : decode cX6_turn 184 = .ok (.istore_n 2, 1) := by decide +kernel
theorem dX6_turn_185 : decode cX6_turn 185 = .ok (.aload_n 0, 1) := by decide +kernel
theorem dX6_turn_186 : decode cX6_turn 186 = .ok (.getfield 7, 3) := by decide +kernel
theorem dX6_turn_189 : decode cX6_turn 189 = .ok (.iconst 1, 1) := by decide +kernel
theorem dX6_turn_190 : decode cX6_turn 190 = .ok (.aload_n 0, 1) := by decide +kernel
theorem dX6_turn_191 : decode cX6_turn 191 = .ok (.getfield 7, 3) := by decide +kernel
theorem dX6_turn_194 : decode cX6_turn 194 = .ok (.iconst 2, 1) := by decide +kernel
theorem dX6_turn_195 : decode cX6_turn 195 = .ok (.iaload, 1) := by decide +kernel
theorem dX6_turn_196 : decode cX6_turn 196 = .ok (.iastore, 1) := by decide +kernel
theorem dX6_turn_197 : decode cX6_turn 197 = .ok (.aload_n 0, 1) := by decide +kernel
theorem dX6_turn_198 : decode cX6_turn 198 = .ok (.getfield 7, 3) := by decide +kernel
theorem dX6_turn_201 : decode cX6_turn 201 = .ok (.iconst 2, 1) := by decide +kernel
theorem dX6_turn_202 : decode cX6_turn 202 = .ok (.iload_n 2, 1) := by decide +kernel
theorem dX6_turn_203 : decode cX6_turn 203 = .ok (.iastore, 1) := by decide +kernel
theorem dX6_turn_204 : decode cX6_turn 204 = .ok (.aload_n 0, 1) := by decide +kernel
theorem dX6_turn_205 : decode cX6_turn 205 = .ok (.invokevirtual 268, 3) := by decide +kernel
theorem dX6_turn_208 : decode cX6_turn 208 = .ok (.ireturn, 1) := by decide +kernel
theorem dX6_keep_0 : decode cX6_keep 0 = .ok (.iload_n 1, 1) := by decide +kernel
theorem dX6_keep_1 : decode cX6_keep 1 = .ok (.i2l, 1) := by decide +kernel
theorem dX6_keep_2 : decode cX6_keep 2 = .ok (.lconst 0, 1) := by decide +kernel
theorem dX6_keep_3 : decode cX6_keep 3 = .ok (.lconst 1, 1) := by decide +kernel
theorem dX6_keep_4 : decode cX6_keep 4 = .ok (.invokestatic 64, 3) := by decide +kernel
theorem dX6_keep_7 : decode cX6_keep 7 = .ok (.ifCond .ne 5, 3) := by decide +kernel
theorem dX6_keep_10 : decode cX6_keep 10 = .ok (.iconst (-1), 1) := by decide +kernel
theorem dX6_keep_11 : decode cX6_keep 11 = .ok (.ireturn, 1) := by decide +kernel
theorem dX6_keep_12 : decode cX6_keep 12 = .ok (.aload_n 0, 1) := by decide +kernel
theorem dX6_keep_13 : decode cX6_keep 13 = .ok (.getfield 16, 3) := by decide +kernel
theorem dX6_keep_16 : decode cX6_keep 16 = .ok (.iload_n 1, 1) := by decide +kernel
theorem dX6_keep_17 : decode cX6_keep 17 = .ok (.baload, 1) := by decide +kernel
theorem dX6_keep_18 : decode cX6_keep 18 = .ok (.invokestatic 214, 3) := by decide +kernel
theorem dX6_keep_21 : decode cX6_keep 21 = .ok (.istore_n 2, 1) := by decide +kernel
theorem dX6_keep_22 : decode cX6_keep 22 = .ok (.aload_n 0, 1) := by decide +kernel
theorem dX6_keep_23 : decode cX6_keep 23 = .ok (.getfield 16, 3) := by decide +kernel
theorem dX6_keep_26 : decode cX6_keep 26 = .ok (.iload_n 1, 1) := by decide +kernel
theorem dX6_keep_27 : decode cX6_keep 27 = .ok (.iconst 1, 1) := by decide +kernel
theorem dX6_keep_28 : decode cX6_keep 28 = .ok (.bastore, 1) := by decide +kernel
theorem dX6_keep_29 : decode cX6_keep 29 = .ok (.iconst 0, 1) := by decide +kernel
theorem dX6_keep_30 : decode cX6_keep 30 = .ok (.istore_n 3, 1) := by decide +kernel
theorem dX6_keep_31 : decode cX6_keep 31 = .ok (.iload_n 3, 1) := by decide +kernel
theorem dX6_keep_32 : decode cX6_keep 32 = .ok (.bipush 35, 2) := by decide +kernel
theorem dX6_keep_34 : decode cX6_keep 34 = .ok (.if_icmp .ge 26, 3) := by decide +kernel
theorem dX6_keep_37 : decode cX6_keep 37 = .ok (.aload_n 0, 1) := by decide +kernel
theorem dX6_keep_38 : decode cX6_keep 38 = .ok (.getfield 13, 3) := by decide +kernel
theorem dX6_keep_41 : decode cX6_keep 41 = .ok (.bipush 35, 2) := by decide +kernel
theorem dX6_keep_43 : decode cX6_keep 43 = .ok (.iload_n 1, 1) := by decide +kernel
theorem dX6_keep_44 : decode cX6_keep 44 = .ok (.imul, 1) := by decide +kernel
theorem dX6_keep_45 : decode cX6_keep 45 = .ok (.iload_n 3, 1) := by decide +kernel
theorem dX6_keep_46 : decode cX6_keep 46 = .ok (.iadd, 1) := by decide +kernel
theorem dX6_keep_47 : decode cX6_keep 47 = .ok (.aload_n 0, 1) := by decide +kernel
theorem dX6_keep_48 : decode cX6_keep 48 = .ok (.getfield 7, 3) := by decide +kernel
theorem dX6_keep_51 : decode cX6_keep 51 = .ok (.iload_n 3, 1) := by decide +kernel
theorem dX6_keep_52 : decode cX6_keep 52 = .ok (.iaload, 1) := by decide +kernel
theorem dX6_keep_53 : decode cX6_keep 53 = .ok (.iastore, 1) := by decide +kernel
theorem dX6_keep_54 : decode cX6_keep 54 = .ok (.iinc 3 1, 3) := by decide +kernel
theorem dX6_keep_57 : decode cX6_keep 57 = .ok (.goto (-26), 3) := by decide +kernel
theorem dX6_keep_60 : decode cX6_keep 60 = .ok (.iload_n 2, 1) := by decide +kernel
theorem dX6_keep_61 : decode cX6_keep 61 = .ok (.ireturn, 1) := by decide +kernel
theorem dX6_takes_0 : decode cX6_takes 0 = .ok (.iconst 0, 1) := by decide +kernel
theorem dX6_takes_1 : decode cX6_takes 1 = .ok (.istore_n 2, 1) := by decide +kernel
theorem dX6_takes_2 : decode cX6_takes 2 = .ok (.iload_n 2, 1) := by decide +kernel
theorem dX6_takes_3 : decode cX6_takes 3 = .ok (.bipush 35, 2) := by decide +kernel
theorem dX6_takes_5 : decode cX6_takes 5 = .ok (.if_icmp .ge 26, 3) := by decide +kernel
theorem dX6_takes_8 : decode cX6_takes 8 = .ok (.aload_n 0, 1) := by decide +kernel
theorem dX6_takes_9 : decode cX6_takes 9 = .ok (.getfield 7, 3) := by decide +kernel
theorem dX6_takes_12 : decode cX6_takes 12 = .ok (.iload_n 2, 1) := by decide +kernel
theorem dX6_takes_13 : decode cX6_takes 13 = .ok (.aload_n 0, 1) := by decide +kernel
theorem dX6_takes_14 : decode cX6_takes 14 = .ok (.getfield 13, 3) := by decide +kernel
theorem dX6_takes_17 : decode cX6_takes 17 = .ok (.bipush 35, 2) := by decide +kernel
theorem dX6_takes_19 : decode cX6_takes 19 = .ok (.iload_n 1, 1) := by decide +kernel
theorem dX6_takes_20 : decode cX6_takes 20 = .ok (.imul, 1) := by decide +kernel
theorem dX6_takes_21 : decode cX6_takes 21 = .ok (.iload_n 2, 1) := by decide +kernel
theorem dX6_takes_22 : decode cX6_takes 22 = .ok (.iadd, 1) := by decide +kernel
theorem dX6_takes_23 : decode cX6_takes 23 = .ok (.iaload, 1) := by decide +kernel
theorem dX6_takes_24 : decode cX6_takes 24 = .ok (.iastore, 1) := by decide +kernel
theorem dX6_takes_25 : decode cX6_takes 25 = .ok (.iinc 2 1, 3) := by decide +kernel
theorem dX6_takes_28 : decode cX6_takes 28 = .ok (.goto (-26), 3) := by decide +kernel
theorem dX6_takes_31 : decode cX6_takes 31 = .ok (.return_, 1) := by decide +kernel
theorem dX6_back_0 : decode cX6_back 0 = .ok (.iload_n 1, 1) := by decide +kernel
theorem dX6_back_1 : decode cX6_back 1 = .ok (.i2l, 1) := by decide +kernel
theorem dX6_back_2 : decode cX6_back 2 = .ok (.lconst 0, 1) := by decide +kernel
theorem dX6_back_3 : decode cX6_back 3 = .ok (.lconst 1, 1) := by decide +kernel
theorem dX6_back_4 : decode cX6_back 4 = .ok (.invokestatic 64, 3) := by decide +kernel
theorem dX6_back_7 : decode cX6_back 7 = .ok (.ifCond .ne 5, 3) := by decide +kernel
theorem dX6_back_10 : decode cX6_back 10 = .ok (.iconst (-1), 1) := by decide +kernel
theorem dX6_back_11 : decode cX6_back 11 = .ok (.ireturn, 1) := by decide +kernel
theorem dX6_back_12 : decode cX6_back 12 = .ok (.aload_n 0, 1) := by decide +kernel
theorem dX6_back_13 : decode cX6_back 13 = .ok (.getfield 16, 3) := by decide +kernel
theorem dX6_back_16 : decode cX6_back 16 = .ok (.iload_n 1, 1) := by decide +kernel
theorem dX6_back_17 : decode cX6_back 17 = .ok (.baload, 1) := by decide +kernel
theorem dX6_back_18 : decode cX6_back 18 = .ok (.ifCond .ne 6, 3) := by decide +kernel
theorem dX6_back_21 : decode cX6_back 21 = .ok (.bipush (-2), 2) := by decide +kernel
theorem dX6_back_23 : decode cX6_back 23 = .ok (.ireturn, 1) := by decide +kernel
theorem dX6_back_24 : decode cX6_back 24 = .ok (.aload_n 0, 1) := by decide +kernel
theorem dX6_back_25 : decode cX6_back 25 = .ok (.iload_n 1, 1) := by decide +kernel
theorem dX6_back_26 : decode cX6_back 26 = .ok (.invokevirtual 296, 3) := by decide +kernel
theorem dX6_back_29 : decode cX6_back 29 = .ok (.aload_n 0, 1) := by decide +kernel
theorem dX6_back_30 : decode cX6_back 30 = .ok (.invokevirtual 268, 3) := by decide +kernel
theorem dX6_back_33 : decode cX6_back 33 = .ok (.ireturn, 1) := by decide +kernel
theorem dX6_findForm_0 : decode cX6_findForm 0 = .ok (.aload_n 0, 1) := by decide +kernel
theorem dX6_findForm_1 : decode cX6_findForm 1 = .ok (.invokevirtual 227, 3) := by decide +kernel
theorem dX6_findForm_4 : decode cX6_findForm 4 = .ok (.iconst 0, 1) := by decide +kernel
theorem dX6_findForm_5 : decode cX6_findForm 5 = .ok (.istore_n 2, 1) := by decide +kernel
theorem dX6_findForm_6 : decode cX6_findForm 6 = .ok (.iload_n 2, 1) := by decide +kernel
theorem dX6_findForm_7 : decode cX6_findForm 7 = .ok (.bipush 45, 2) := by decide +kernel
theorem dX6_findForm_9 : decode cX6_findForm 9 = .ok (.if_icmp .ge 13, 3) := by decide +kernel
theorem dX6_findForm_12 : decode cX6_findForm 12 = .ok (.aload_n 1, 1) := by decide +kernel
theorem dX6_findForm_13 : decode cX6_findForm 13 = .ok (.iload_n 2, 1) := by decide +kernel
theorem dX6_findForm_14 : decode cX6_findForm 14 = .ok (.iconst 0, 1) := by decide +kernel
theorem dX6_findForm_15 : decode cX6_findForm 15 = .ok (.iastore, 1) := by decide +kernel
theorem dX6_findForm_16 : decode cX6_findForm 16 = .ok (.iinc 2 1, 3) := by decide +kernel
theorem dX6_findForm_19 : decode cX6_findForm 19 = .ok (.goto (-13), 3) := by decide +kernel
theorem dX6_findForm_22 : decode cX6_findForm 22 = .ok (.aload_n 1, 1) := by decide +kernel
theorem dX6_findForm_23 : decode cX6_findForm 23 = .ok (.iconst 0, 1) := by decide +kernel
end
section
theorem dX6_findForm_24 : decode cX6_findForm 24 = .ok (.aload_n 0, 1) := by decide +kernel
theorem dX6_findForm_25 : decode cX6_findForm 25 = .ok (.getfield 7, 3) := by decide +kernel
theorem dX6_findForm_28 : decode cX6_findForm 28 = .ok (.iconst 0, 1) := by decide +kernel
theorem dX6_findForm_29 : decode cX6_findForm 29 = .ok (.iaload, 1) := by decide +kernel
theorem dX6_findForm_30 : decode cX6_findForm 30 = .ok (.iastore, 1) := by decide +kernel
theorem dX6_findForm_31 : decode cX6_findForm 31 = .ok (.aload_n 1, 1) := by decide +kernel
theorem dX6_findForm_32 : decode cX6_findForm 32 = .ok (.iconst 1, 1) := by decide +kernel
theorem dX6_findForm_33 : decode cX6_findForm 33 = .ok (.aload_n 0, 1) := by decide +kernel
theorem dX6_findForm_34 : decode cX6_findForm 34 = .ok (.getfield 7, 3) := by decide +kernel
theorem dX6_findForm_37 : decode cX6_findForm 37 = .ok (.iconst 1, 1) := by decide +kernel
theorem dX6_findForm_38 : decode cX6_findForm 38 = .ok (.iaload, 1) := by decide +kernel
theorem dX6_findForm_39 : decode cX6_findForm 39 = .ok (.iastore, 1) := by decide +kernel
theorem dX6_findForm_40 : decode cX6_findForm 40 = .ok (.aload_n 1, 1) := by decide +kernel
theorem dX6_findForm_41 : decode cX6_findForm 41 = .ok (.iconst 2, 1) := by decide +kernel
theorem dX6_findForm_42 : decode cX6_findForm 42 = .ok (.aload_n 0, 1) := by decide +kernel
theorem dX6_findForm_43 : decode cX6_findForm 43 = .ok (.getfield 7, 3) := by decide +kernel
theorem dX6_findForm_46 : decode cX6_findForm 46 = .ok (.iconst 2, 1) := by decide +kernel
theorem dX6_findForm_47 : decode cX6_findForm 47 = .ok (.iaload, 1) := by decide +kernel
theorem dX6_findForm_48 : decode cX6_findForm 48 = .ok (.iastore, 1) := by decide +kernel
theorem dX6_findForm_49 : decode cX6_findForm 49 = .ok (.iconst 0, 1) := by decide +kernel
theorem dX6_findForm_50 : decode cX6_findForm 50 = .ok (.istore_n 2, 1) := by decide +kernel
theorem dX6_findForm_51 : decode cX6_findForm 51 = .ok (.iload_n 2, 1) := by decide +kernel
theorem dX6_findForm_52 : decode cX6_findForm 52 = .ok (.iconst 4, 1) := by decide +kernel
theorem dX6_findForm_53 : decode cX6_findForm 53 = .ok (.if_icmp .gt 32, 3) := by decide +kernel
theorem dX6_findForm_56 : decode cX6_findForm 56 = .ok (.aload_n 1, 1) := by decide +kernel
theorem dX6_findForm_57 : decode cX6_findForm 57 = .ok (.iconst 3, 1) := by decide +kernel
theorem dX6_findForm_58 : decode cX6_findForm 58 = .ok (.iload_n 2, 1) := by decide +kernel
theorem dX6_findForm_59 : decode cX6_findForm 59 = .ok (.iadd, 1) := by decide +kernel
theorem dX6_findForm_60 : decode cX6_findForm 60 = .ok (.aload_n 0, 1) := by decide +kernel
theorem dX6_findForm_61 : decode cX6_findForm 61 = .ok (.getfield 29, 3) := by decide +kernel
theorem dX6_findForm_64 : decode cX6_findForm 64 = .ok (.iload_n 2, 1) := by decide +kernel
theorem dX6_findForm_65 : decode cX6_findForm 65 = .ok (.iaload, 1) := by decide +kernel
theorem dX6_findForm_66 : decode cX6_findForm 66 = .ok (.iastore, 1) := by decide +kernel
theorem dX6_findForm_67 : decode cX6_findForm 67 = .ok (.aload_n 1, 1) := by decide +kernel
theorem dX6_findForm_68 : decode cX6_findForm 68 = .ok (.bipush 8, 2) := by decide +kernel
theorem dX6_findForm_70 : decode cX6_findForm 70 = .ok (.iload_n 2, 1) := by decide +kernel
theorem dX6_findForm_71 : decode cX6_findForm 71 = .ok (.iadd, 1) := by decide +kernel
theorem dX6_findForm_72 : decode cX6_findForm 72 = .ok (.aload_n 0, 1) := by decide +kernel
theorem dX6_findForm_73 : decode cX6_findForm 73 = .ok (.getfield 32, 3) := by decide +kernel
theorem dX6_findForm_76 : decode cX6_findForm 76 = .ok (.iload_n 2, 1) := by decide +kernel
theorem dX6_findForm_77 : decode cX6_findForm 77 = .ok (.iaload, 1) := by decide +kernel
theorem dX6_findForm_78 : decode cX6_findForm 78 = .ok (.iastore, 1) := by decide +kernel
theorem dX6_findForm_79 : decode cX6_findForm 79 = .ok (.iinc 2 1, 3) := by decide +kernel
theorem dX6_findForm_82 : decode cX6_findForm 82 = .ok (.goto (-31), 3) := by decide +kernel
theorem dX6_findForm_85 : decode cX6_findForm 85 = .ok (.iconst 0, 1) := by decide +kernel
theorem dX6_findForm_86 : decode cX6_findForm 86 = .ok (.istore_n 2, 1) := by decide +kernel
theorem dX6_findForm_87 : decode cX6_findForm 87 = .ok (.iload_n 2, 1) := by decide +kernel
theorem dX6_findForm_88 : decode cX6_findForm 88 = .ok (.aload_n 0, 1) := by decide +kernel
theorem dX6_findForm_89 : decode cX6_findForm 89 = .ok (.getfield 7, 3) := by decide +kernel
theorem dX6_findForm_92 : decode cX6_findForm 92 = .ok (.iconst 0, 1) := by decide +kernel
theorem dX6_findForm_93 : decode cX6_findForm 93 = .ok (.iaload, 1) := by decide +kernel
theorem dX6_findForm_94 : decode cX6_findForm 94 = .ok (.if_icmp .gt 45, 3) := by decide +kernel
theorem dX6_findForm_97 : decode cX6_findForm 97 = .ok (.aload_n 0, 1) := by decide +kernel
theorem dX6_findForm_98 : decode cX6_findForm 98 = .ok (.iload_n 2, 1) := by decide +kernel
theorem dX6_findForm_99 : decode cX6_findForm 99 = .ok (.invokevirtual 218, 3) := by decide +kernel
theorem dX6_findForm_102 : decode cX6_findForm 102 = .ok (.iconst 1, 1) := by decide +kernel
theorem dX6_findForm_103 : decode cX6_findForm 103 = .ok (.istore_n 3, 1) := by decide +kernel
theorem dX6_findForm_104 : decode cX6_findForm 104 = .ok (.iload_n 3, 1) := by decide +kernel
theorem dX6_findForm_105 : decode cX6_findForm 105 = .ok (.iconst 4, 1) := by decide +kernel
theorem dX6_findForm_106 : decode cX6_findForm 106 = .ok (.if_icmp .gt 27, 3) := by decide +kernel
theorem dX6_findForm_109 : decode cX6_findForm 109 = .ok (.aload_n 1, 1) := by decide +kernel
theorem dX6_findForm_110 : decode cX6_findForm 110 = .ok (.bipush 13, 2) := by decide +kernel
theorem dX6_findForm_112 : decode cX6_findForm 112 = .ok (.iconst 4, 1) := by decide +kernel
theorem dX6_findForm_113 : decode cX6_findForm 113 = .ok (.iload_n 2, 1) := by decide +kernel
theorem dX6_findForm_114 : decode cX6_findForm 114 = .ok (.imul, 1) := by decide +kernel
theorem dX6_findForm_115 : decode cX6_findForm 115 = .ok (.iadd, 1) := by decide +kernel
theorem dX6_findForm_116 : decode cX6_findForm 116 = .ok (.iload_n 3, 1) := by decide +kernel
theorem dX6_findForm_117 : decode cX6_findForm 117 = .ok (.iadd, 1) := by decide +kernel
theorem dX6_findForm_118 : decode cX6_findForm 118 = .ok (.iconst 1, 1) := by decide +kernel
theorem dX6_findForm_119 : decode cX6_findForm 119 = .ok (.isub, 1) := by decide +kernel
theorem dX6_findForm_120 : decode cX6_findForm 120 = .ok (.aload_n 0, 1) := by decide +kernel
theorem dX6_findForm_121 : decode cX6_findForm 121 = .ok (.getfield 35, 3) := by decide +kernel
theorem dX6_findForm_124 : decode cX6_findForm 124 = .ok (.iload_n 3, 1) := by decide +kernel
theorem dX6_findForm_125 : decode cX6_findForm 125 = .ok (.iaload, 1) := by decide +kernel
theorem dX6_findForm_126 : decode cX6_findForm 126 = .ok (.iastore, 1) := by decide +kernel
theorem dX6_findForm_127 : decode cX6_findForm 127 = .ok (.iinc 3 1, 3) := by decide +kernel
theorem dX6_findForm_130 : decode cX6_findForm 130 = .ok (.goto (-26), 3) := by decide +kernel
theorem dX6_findForm_133 : decode cX6_findForm 133 = .ok (.iinc 2 1, 3) := by decide +kernel
theorem dX6_findForm_136 : decode cX6_findForm 136 = .ok (.goto (-49), 3) := by decide +kernel
theorem dX6_findForm_139 : decode cX6_findForm 139 = .ok (.return_, 1) := by decide +kernel
theorem dX6_alike_0 : decode cX6_alike 0 = .ok (.iload_n 1, 1) := by decide +kernel
theorem dX6_alike_1 : decode cX6_alike 1 = .ok (.i2l, 1) := by decide +kernel
theorem dX6_alike_2 : decode cX6_alike 2 = .ok (.lconst 0, 1) := by decide +kernel
theorem dX6_alike_3 : decode cX6_alike 3 = .ok (.lconst 1, 1) := by decide +kernel
theorem dX6_alike_4 : decode cX6_alike 4 = .ok (.invokestatic 64, 3) := by decide +kernel
theorem dX6_alike_7 : decode cX6_alike 7 = .ok (.ifCond .ne 5, 3) := by decide +kernel
theorem dX6_alike_10 : decode cX6_alike 10 = .ok (.iconst (-1), 1) := by decide +kernel
theorem dX6_alike_11 : decode cX6_alike 11 = .ok (.ireturn, 1) := by decide +kernel
theorem dX6_alike_12 : decode cX6_alike 12 = .ok (.aload_n 0, 1) := by decide +kernel
theorem dX6_alike_13 : decode cX6_alike 13 = .ok (.getfield 16, 3) := by decide +kernel
theorem dX6_alike_16 : decode cX6_alike 16 = .ok (.iload_n 1, 1) := by decide +kernel
theorem dX6_alike_17 : decode cX6_alike 17 = .ok (.baload, 1) := by decide +kernel
theorem dX6_alike_18 : decode cX6_alike 18 = .ok (.ifCond .ne 6, 3) := by decide +kernel
theorem dX6_alike_21 : decode cX6_alike 21 = .ok (.bipush (-2), 2) := by decide +kernel
theorem dX6_alike_23 : decode cX6_alike 23 = .ok (.ireturn, 1) := by decide +kernel
theorem dX6_alike_24 : decode cX6_alike 24 = .ok (.iconst 0, 1) := by decide +kernel
theorem dX6_alike_25 : decode cX6_alike 25 = .ok (.istore_n 2, 1) := by decide +kernel
theorem dX6_alike_26 : decode cX6_alike 26 = .ok (.iload_n 2, 1) := by decide +kernel
theorem dX6_alike_27 : decode cX6_alike 27 = .ok (.bipush 35, 2) := by decide +kernel
theorem dX6_alike_29 : decode cX6_alike 29 = .ok (.if_icmp .ge 21, 3) := by decide +kernel
theorem dX6_alike_32 : decode cX6_alike 32 = .ok (.aload_n 0, 1) := by decide +kernel
theorem dX6_alike_33 : decode cX6_alike 33 = .ok (.getfield 41, 3) := by decide +kernel
theorem dX6_alike_36 : decode cX6_alike 36 = .ok (.iload_n 2, 1) := by decide +kernel
theorem dX6_alike_37 : decode cX6_alike 37 = .ok (.aload_n 0, 1) := by decide +kernel
theorem dX6_alike_38 : decode cX6_alike 38 = .ok (.getfield 7, 3) := by decide +kernel
theorem dX6_alike_41 : decode cX6_alike 41 = .ok (.iload_n 2, 1) := by decide +kernel
theorem dX6_alike_42 : decode cX6_alike 42 = .ok (.iaload, 1) := by decide +kernel
theorem dX6_alike_43 : decode cX6_alike 43 = .ok (.iastore, 1) := by decide +kernel
theorem dX6_alike_44 : decode cX6_alike 44 = .ok (.iinc 2 1, 3) := by decide +kernel
theorem dX6_alike_47 : decode cX6_alike 47 = .ok (.goto (-21), 3) := by decide +kernel
theorem dX6_alike_50 : decode cX6_alike 50 = .ok (.aload_n 0, 1) := by decide +kernel
theorem dX6_alike_51 : decode cX6_alike 51 = .ok (.aload_n 0, 1) := by decide +kernel
theorem dX6_alike_52 : decode cX6_alike 52 = .ok (.getfield 44, 3) := by decide +kernel
theorem dX6_alike_55 : decode cX6_alike 55 = .ok (.invokevirtual 299, 3) := by decide +kernel
theorem dX6_alike_58 : decode cX6_alike 58 = .ok (.aload_n 0, 1) := by decide +kernel
theorem dX6_alike_59 : decode cX6_alike 59 = .ok (.iload_n 1, 1) := by decide +kernel
theorem dX6_alike_60 : decode cX6_alike 60 = .ok (.invokevirtual 296, 3) := by decide +kernel
theorem dX6_alike_63 : decode cX6_alike 63 = .ok (.aload_n 0, 1) := by decide +kernel
theorem dX6_alike_64 : decode cX6_alike 64 = .ok (.aload_n 0, 1) := by decide +kernel
theorem dX6_alike_65 : decode cX6_alike 65 = .ok (.getfield 47, 3) := by decide +kernel
theorem dX6_alike_68 : decode cX6_alike 68 = .ok (.invokevirtual 299, 3) := by decide +kernel
theorem dX6_alike_71 : decode cX6_alike 71 = .ok (.iconst 0, 1) := by decide +kernel
theorem dX6_alike_72 : decode cX6_alike 72 = .ok (.istore_n 2, 1) := by decide +kernel
theorem dX6_alike_73 : decode cX6_alike 73 = .ok (.iload_n 2, 1) := by decide +kernel
theorem dX6_alike_74 : decode cX6_alike 74 = .ok (.bipush 35, 2) := by decide +kernel
theorem dX6_alike_76 : decode cX6_alike 76 = .ok (.if_icmp .ge 21, 3) := by decide +kernel
theorem dX6_alike_79 : decode cX6_alike 79 = .ok (.aload_n 0, 1) := by decide +kernel
theorem dX6_alike_80 : decode cX6_alike 80 = .ok (.getfield 7, 3) := by decide +kernel
theorem dX6_alike_83 : decode cX6_alike 83 = .ok (.iload_n 2, 1) := by decide +kernel
theorem dX6_alike_84 : decode cX6_alike 84 = .ok (.aload_n 0, 1) := by decide +kernel
theorem dX6_alike_85 : decode cX6_alike 85 = .ok (.getfield 41, 3) := by decide +kernel
theorem dX6_alike_88 : decode cX6_alike 88 = .ok (.iload_n 2, 1) := by decide +kernel
theorem dX6_alike_89 : decode cX6_alike 89 = .ok (.iaload, 1) := by decide +kernel
theorem dX6_alike_90 : decode cX6_alike 90 = .ok (.iastore, 1) := by decide +kernel
theorem dX6_alike_91 : decode cX6_alike 91 = .ok (.iinc 2 1, 3) := by decide +kernel
theorem dX6_alike_94 : decode cX6_alike 94 = .ok (.goto (-21), 3) := by decide +kernel
theorem dX6_alike_97 : decode cX6_alike 97 = .ok (.iconst 1, 1) := by decide +kernel
theorem dX6_alike_98 : decode cX6_alike 98 = .ok (.istore_n 2, 1) := by decide +kernel
theorem dX6_alike_99 : decode cX6_alike 99 = .ok (.iconst 0, 1) := by decide +kernel
theorem dX6_alike_100 : decode cX6_alike 100 = .ok (.istore_n 3, 1) := by decide +kernel
theorem dX6_alike_101 : decode cX6_alike 101 = .ok (.iload_n 3, 1) := by decide +kernel
theorem dX6_alike_102 : decode cX6_alike 102 = .ok (.bipush 45, 2) := by decide +kernel
theorem dX6_alike_104 : decode cX6_alike 104 = .ok (.if_icmp .ge 34, 3) := by decide +kernel
theorem dX6_alike_107 : decode cX6_alike 107 = .ok (.iload_n 2, 1) := by decide +kernel
theorem dX6_alike_108 : decode cX6_alike 108 = .ok (.ifCond .eq 22, 3) := by decide +kernel
theorem dX6_alike_111 : decode cX6_alike 111 = .ok (.aload_n 0, 1) := by decide +kernel
theorem dX6_alike_112 : decode cX6_alike 112 = .ok (.getfield 44, 3) := by decide +kernel
theorem dX6_alike_115 : decode cX6_alike 115 = .ok (.iload_n 3, 1) := by decide +kernel
theorem dX6_alike_116 : decode cX6_alike 116 = .ok (.iaload, 1) := by decide +kernel
theorem dX6_alike_117 : decode cX6_alike 117 = .ok (.aload_n 0, 1) := by decide +kernel
theorem dX6_alike_118 : decode cX6_alike 118 = .ok (.getfield 47, 3) := by decide +kernel
theorem dX6_alike_121 : decode cX6_alike 121 = .ok (.iload_n 3, 1) := by decide +kernel
theorem dX6_alike_122 : decode cX6_alike 122 = .ok (.iaload, 1) := by decide +kernel
theorem dX6_alike_123 : decode cX6_alike 123 = .ok (.if_icmp .ne 7, 3) := by decide +kernel
theorem dX6_alike_126 : decode cX6_alike 126 = .ok (.iconst 1, 1) := by decide +kernel
theorem dX6_alike_127 : decode cX6_alike 127 = .ok (.goto 4, 3) := by decide +kernel
theorem dX6_alike_130 : decode cX6_alike 130 = .ok (.iconst 0, 1) := by decide +kernel
theorem dX6_alike_131 : decode cX6_alike 131 = .ok (.istore_n 2, 1) := by decide +kernel
theorem dX6_alike_132 : decode cX6_alike 132 = .ok (.iinc 3 1, 3) := by decide +kernel
theorem dX6_alike_135 : decode cX6_alike 135 = .ok (.goto (-34), 3) := by decide +kernel
theorem dX6_alike_138 : decode cX6_alike 138 = .ok (.iload_n 2, 1) := by decide +kernel
theorem dX6_alike_139 : decode cX6_alike 139 = .ok (.invokestatic 214, 3) := by decide +kernel
theorem dX6_alike_142 : decode cX6_alike 142 = .ok (.ireturn, 1) := by decide +kernel
theorem dX6_isSheet_0 : decode cX6_isSheet 0 = .ok (.iload_n 0, 1) := by decide +kernel
theorem dX6_isSheet_1 : decode cX6_isSheet 1 = .ok (.i2l, 1) := by decide +kernel
theorem dX6_isSheet_2 : decode cX6_isSheet 2 = .ok (.lconst 0, 1) := by decide +kernel
theorem dX6_isSheet_3 : decode cX6_isSheet 3 = .ok (.ldc2_w 302, 3) := by decide +kernel
theorem dX6_isSheet_6 : decode cX6_isSheet 6 = .ok (.invokestatic 64, 3) := by decide +kernel
theorem dX6_isSheet_9 : decode cX6_isSheet 9 = .ok (.ifCond .eq 19, 3) := by decide +kernel
theorem dX6_isSheet_12 : decode cX6_isSheet 12 = .ok (.iload_n 1, 1) := by decide +kernel
theorem dX6_isSheet_13 : decode cX6_isSheet 13 = .ok (.i2l, 1) := by decide +kernel
theorem dX6_isSheet_14 : decode cX6_isSheet 14 = .ok (.lconst 0, 1) := by decide +kernel
theorem dX6_isSheet_15 : decode cX6_isSheet 15 = .ok (.ldc2_w 291, 3) := by decide +kernel
theorem dX6_isSheet_18 : decode cX6_isSheet 18 = .ok (.invokestatic 64, 3) := by decide +kernel
theorem dX6_isSheet_21 : decode cX6_isSheet 21 = .ok (.ifCond .eq 7, 3) := by decide +kernel
theorem dX6_isSheet_24 : decode cX6_isSheet 24 = .ok (.iconst 1, 1) := by decide +kernel
theorem dX6_isSheet_25 : decode cX6_isSheet 25 = .ok (.goto 4, 3) := by decide +kernel
theorem dX6_isSheet_28 : decode cX6_isSheet 28 = .ok (.iconst 0, 1) := by decide +kernel
theorem dX6_isSheet_29 : decode cX6_isSheet 29 = .ok (.ireturn, 1) := by decide +kernel
theorem dX6_sheet_0 : decode cX6_sheet 0 = .ok (.iload_n 1, 1) := by decide +kernel
theorem dX6_sheet_1 : decode cX6_sheet 1 = .ok (.iload_n 2, 1) := by decide +kernel
theorem dX6_sheet_2 : decode cX6_sheet 2 = .ok (.invokestatic 304, 3) := by decide +kernel
theorem dX6_sheet_5 : decode cX6_sheet 5 = .ok (.ifCond .eq 9, 3) := by decide +kernel
theorem dX6_sheet_8 : decode cX6_sheet 8 = .ok (.iload_n 3, 1) := by decide +kernel
theorem dX6_sheet_9 : decode cX6_sheet 9 = .ok (.bipush 40, 2) := by decide +kernel
theorem dX6_sheet_11 : decode cX6_sheet 11 = .ok (.if_icmp .le 5, 3) := by decide +kernel
theorem dX6_sheet_14 : decode cX6_sheet 14 = .ok (.iconst (-1), 1) := by decide +kernel
theorem dX6_sheet_15 : decode cX6_sheet 15 = .ok (.ireturn, 1) := by decide +kernel
theorem dX6_sheet_16 : decode cX6_sheet 16 = .ok (.iload_n 3, 1) := by decide +kernel
theorem dX6_sheet_17 : decode cX6_sheet 17 = .ok (.ifCond .ge 6, 3) := by decide +kernel
theorem dX6_sheet_20 : decode cX6_sheet 20 = .ok (.bipush (-14), 2) := by decide +kernel
theorem dX6_sheet_22 : decode cX6_sheet 22 = .ok (.ireturn, 1) := by decide +kernel
theorem dX6_sheet_23 : decode cX6_sheet 23 = .ok (.aload_n 0, 1) := by decide +kernel
theorem dX6_sheet_24 : decode cX6_sheet 24 = .ok (.getfield 50, 3) := by decide +kernel
theorem dX6_sheet_27 : decode cX6_sheet 27 = .ok (.iload_n 1, 1) := by decide +kernel
theorem dX6_sheet_28 : decode cX6_sheet 28 = .ok (.iload_n 2, 1) := by decide +kernel
theorem dX6_sheet_29 : decode cX6_sheet 29 = .ok (.iastore, 1) := by decide +kernel
theorem dX6_sheet_30 : decode cX6_sheet 30 = .ok (.aload_n 0, 1) := by decide +kernel
theorem dX6_sheet_31 : decode cX6_sheet 31 = .ok (.getfield 53, 3) := by decide +kernel
theorem dX6_sheet_34 : decode cX6_sheet 34 = .ok (.iload_n 1, 1) := by decide +kernel
theorem dX6_sheet_35 : decode cX6_sheet 35 = .ok (.iload_n 3, 1) := by decide +kernel
theorem dX6_sheet_36 : decode cX6_sheet 36 = .ok (.iastore, 1) := by decide +kernel
theorem dX6_sheet_37 : decode cX6_sheet 37 = .ok (.iconst 0, 1) := by decide +kernel
theorem dX6_sheet_38 : decode cX6_sheet 38 = .ok (.istore 4, 2) := by decide +kernel
theorem dX6_sheet_40 : decode cX6_sheet 40 = .ok (.iload 4, 2) := by decide +kernel
theorem dX6_sheet_42 : decode cX6_sheet 42 = .ok (.bipush 40, 2) := by decide +kernel
theorem dX6_sheet_44 : decode cX6_sheet 44 = .ok (.if_icmp .ge 22, 3) := by decide +kernel
theorem dX6_sheet_47 : decode cX6_sheet 47 = .ok (.aload_n 0, 1) := by decide +kernel
theorem dX6_sheet_48 : decode cX6_sheet 48 = .ok (.getfield 56, 3) := by decide +kernel
theorem dX6_sheet_51 : decode cX6_sheet 51 = .ok (.bipush 40, 2) := by decide +kernel
theorem dX6_sheet_53 : decode cX6_sheet 53 = .ok (.iload_n 1, 1) := by decide +kernel
theorem dX6_sheet_54 : decode cX6_sheet 54 = .ok (.imul, 1) := by decide +kernel
theorem dX6_sheet_55 : decode cX6_sheet 55 = .ok (.iload 4, 2) := by decide +kernel
theorem dX6_sheet_57 : decode cX6_sheet 57 = .ok (.iadd, 1) := by decide +kernel
theorem dX6_sheet_58 : decode cX6_sheet 58 = .ok (.iconst 0, 1) := by decide +kernel
theorem dX6_sheet_59 : decode cX6_sheet 59 = .ok (.iastore, 1) := by decide +kernel
theorem dX6_sheet_60 : decode cX6_sheet 60 = .ok (.iinc 4 1, 3) := by decide +kernel
theorem dX6_sheet_63 : decode cX6_sheet 63 = .ok (.goto (-23), 3) := by decide +kernel
theorem dX6_sheet_66 : decode cX6_sheet 66 = .ok (.iconst 1, 1) := by decide +kernel
theorem dX6_sheet_67 : decode cX6_sheet 67 = .ok (.ireturn, 1) := by decide +kernel
theorem dX6_lay_0 : decode cX6_lay 0 = .ok (.iload_n 1, 1) := by decide +kernel
theorem dX6_lay_1 : decode cX6_lay 1 = .ok (.iconst 0, 1) := by decide +kernel
theorem dX6_lay_2 : decode cX6_lay 2 = .ok (.invokestatic 304, 3) := by decide +kernel
theorem dX6_lay_5 : decode cX6_lay 5 = .ok (.ifCond .ne 5, 3) := by decide +kernel
theorem dX6_lay_8 : decode cX6_lay 8 = .ok (.iconst (-1), 1) := by decide +kernel
theorem dX6_lay_9 : decode cX6_lay 9 = .ok (.ireturn, 1) := by decide +kernel
theorem dX6_lay_10 : decode cX6_lay 10 = .ok (.aload_n 0, 1) := by decide +kernel
theorem dX6_lay_11 : decode cX6_lay 11 = .ok (.getfield 50, 3) := by decide +kernel
theorem dX6_lay_14 : decode cX6_lay 14 = .ok (.iload_n 1, 1) := by decide +kernel
theorem dX6_lay_15 : decode cX6_lay 15 = .ok (.iaload, 1) := by decide +kernel
theorem dX6_lay_16 : decode cX6_lay 16 = .ok (.bipush (-4), 2) := by decide +kernel
theorem dX6_lay_18 : decode cX6_lay 18 = .ok (.if_icmp .ne 6, 3) := by decide +kernel
theorem dX6_lay_21 : decode cX6_lay 21 = .ok (.bipush (-11), 2) := by decide +kernel
theorem dX6_lay_23 : decode cX6_lay 23 = .ok (.ireturn, 1) := by decide +kernel
theorem dX6_lay_24 : decode cX6_lay 24 = .ok (.iload_n 2, 1) := by decide +kernel
theorem dX6_lay_25 : decode cX6_lay 25 = .ok (.i2l, 1) := by decide +kernel
theorem dX6_lay_26 : decode cX6_lay 26 = .ok (.lconst 0, 1) := by decide +kernel
theorem dX6_lay_27 : decode cX6_lay 27 = .ok (.aload_n 0, 1) := by decide +kernel
theorem dX6_lay_28 : decode cX6_lay 28 = .ok (.getfield 53, 3) := by decide +kernel
theorem dX6_lay_31 : decode cX6_lay 31 = .ok (.iload_n 1, 1) := by decide +kernel
theorem dX6_lay_32 : decode cX6_lay 32 = .ok (.iaload, 1) := by decide +kernel
theorem dX6_lay_33 : decode cX6_lay 33 = .ok (.iconst 1, 1) := by decide +kernel
theorem dX6_lay_34 : decode cX6_lay 34 = .ok (.isub, 1) := by decide +kernel
theorem dX6_lay_35 : decode cX6_lay 35 = .ok (.i2l, 1) := by decide +kernel
theorem dX6_lay_36 : decode cX6_lay 36 = .ok (.invokestatic 64, 3) := by decide +kernel
theorem dX6_lay_39 : decode cX6_lay 39 = .ok (.ifCond .ne 6, 3) := by decide +kernel
theorem dX6_lay_42 : decode cX6_lay 42 = .ok (.bipush (-12), 2) := by decide +kernel
theorem dX6_lay_44 : decode cX6_lay 44 = .ok (.ireturn, 1) := by decide +kernel
theorem dX6_lay_45 : decode cX6_lay 45 = .ok (.aload_n 0, 1) := by decide +kernel
theorem dX6_lay_46 : decode cX6_lay 46 = .ok (.getfield 56, 3) := by decide +kernel
theorem dX6_lay_49 : decode cX6_lay 49 = .ok (.bipush 40, 2) := by decide +kernel
theorem dX6_lay_51 : decode cX6_lay 51 = .ok (.iload_n 1, 1) := by decide +kernel
theorem dX6_lay_52 : decode cX6_lay 52 = .ok (.imul, 1) := by decide +kernel
theorem dX6_lay_53 : decode cX6_lay 53 = .ok (.iload_n 2, 1) := by decide +kernel
theorem dX6_lay_54 : decode cX6_lay 54 = .ok (.iadd, 1) := by decide +kernel
theorem dX6_lay_55 : decode cX6_lay 55 = .ok (.aload_n 0, 1) := by decide +kernel
theorem dX6_lay_56 : decode cX6_lay 56 = .ok (.getfield 50, 3) := by decide +kernel
theorem dX6_lay_59 : decode cX6_lay 59 = .ok (.iload_n 1, 1) := by decide +kernel
theorem dX6_lay_60 : decode cX6_lay 60 = .ok (.iaload, 1) := by decide +kernel
theorem dX6_lay_61 : decode cX6_lay 61 = .ok (.ifCond .ne 8, 3) := by decide +kernel
theorem dX6_lay_64 : decode cX6_lay 64 = .ok (.iload_n 3, 1) := by decide +kernel
theorem dX6_lay_65 : decode cX6_lay 65 = .ok (.i2b, 1) := by decide +kernel
theorem dX6_lay_66 : decode cX6_lay 66 = .ok (.goto 19, 3) := by decide +kernel
theorem dX6_lay_69 : decode cX6_lay 69 = .ok (.aload_n 0, 1) := by decide +kernel
theorem dX6_lay_70 : decode cX6_lay 70 = .ok (.getfield 50, 3) := by decide +kernel
theorem dX6_lay_73 : decode cX6_lay 73 = .ok (.iload_n 1, 1) := by decide +kernel
theorem dX6_lay_74 : decode cX6_lay 74 = .ok (.iaload, 1) := by decide +kernel
theorem dX6_lay_75 : decode cX6_lay 75 = .ok (.iconst 1, 1) := by decide +kernel
theorem dX6_lay_76 : decode cX6_lay 76 = .ok (.if_icmp .ne 8, 3) := by decide +kernel
theorem dX6_lay_79 : decode cX6_lay 79 = .ok (.iload_n 3, 1) := by decide +kernel
theorem dX6_lay_80 : decode cX6_lay 80 = .ok (.i2s, 1) := by decide +kernel
theorem dX6_lay_81 : decode cX6_lay 81 = .ok (.goto 4, 3) := by decide +kernel
theorem dX6_lay_84 : decode cX6_lay 84 = .ok (.iload_n 3, 1) := by decide +kernel
theorem dX6_lay_85 : decode cX6_lay 85 = .ok (.iastore, 1) := by decide +kernel
theorem dX6_lay_86 : decode cX6_lay 86 = .ok (.iconst 1, 1) := by decide +kernel
theorem dX6_lay_87 : decode cX6_lay 87 = .ok (.ireturn, 1) := by decide +kernel
theorem dX6_read_0 : decode cX6_read 0 = .ok (.iload_n 1, 1) := by decide +kernel
theorem dX6_read_1 : decode cX6_read 1 = .ok (.iload_n 2, 1) := by decide +kernel
theorem dX6_read_2 : decode cX6_read 2 = .ok (.invokestatic 304, 3) := by decide +kernel
theorem dX6_read_5 : decode cX6_read 5 = .ok (.ifCond .eq 16, 3) := by decide +kernel
theorem dX6_read_8 : decode cX6_read 8 = .ok (.iload 4, 2) := by decide +kernel
theorem dX6_read_10 : decode cX6_read 10 = .ok (.i2l, 1) := by decide +kernel
theorem dX6_read_11 : decode cX6_read 11 = .ok (.lconst 0, 1) := by decide +kernel
theorem dX6_read_12 : decode cX6_read 12 = .ok (.ldc2_w 307, 3) := by decide +kernel
theorem dX6_read_15 : decode cX6_read 15 = .ok (.invokestatic 64, 3) := by decide +kernel
theorem dX6_read_18 : decode cX6_read 18 = .ok (.ifCond .ne 5, 3) := by decide +kernel
theorem dX6_read_21 : decode cX6_read 21 = .ok (.iconst (-1), 1) := by decide +kernel
theorem dX6_read_22 : decode cX6_read 22 = .ok (.ireturn, 1) := by decide +kernel
theorem dX6_read_23 : decode cX6_read 23 = .ok (.iconst 0, 1) := by decide +kernel
theorem dX6_read_24 : decode cX6_read 24 = .ok (.istore 5, 2) := by decide +kernel
theorem dX6_read_26 : decode cX6_read 26 = .ok (.iload 5, 2) := by decide +kernel
theorem dX6_read_28 : decode cX6_read 28 = .ok (.bipush 35, 2) := by decide +kernel
theorem dX6_read_30 : decode cX6_read 30 = .ok (.if_icmp .ge 23, 3) := by decide +kernel
theorem dX6_read_33 : decode cX6_read 33 = .ok (.aload_n 0, 1) := by decide +kernel
theorem dX6_read_34 : decode cX6_read 34 = .ok (.getfield 59, 3) := by decide +kernel
theorem dX6_read_37 : decode cX6_read 37 = .ok (.iload 5, 2) := by decide +kernel
theorem dX6_read_39 : decode cX6_read 39 = .ok (.aload_n 0, 1) := by decide +kernel
theorem dX6_read_40 : decode cX6_read 40 = .ok (.getfield 7, 3) := by decide +kernel
theorem dX6_read_43 : decode cX6_read 43 = .ok (.iload 5, 2) := by decide +kernel
theorem dX6_read_45 : decode cX6_read 45 = .ok (.iaload, 1) := by decide +kernel
theorem dX6_read_46 : decode cX6_read 46 = .ok (.iastore, 1) := by decide +kernel
theorem dX6_read_47 : decode cX6_read 47 = .ok (.iinc 5 1, 3) := by decide +kernel
theorem dX6_read_50 : decode cX6_read 50 = .ok (.goto (-24), 3) := by decide +kernel
theorem dX6_read_53 : decode cX6_read 53 = .ok (.iconst 0, 1) := by decide +kernel
theorem dX6_read_54 : decode cX6_read 54 = .ok (.istore 5, 2) := by decide +kernel
theorem dX6_read_56 : decode cX6_read 56 = .ok (.iconst 0, 1) := by decide +kernel
theorem dX6_read_57 : decode cX6_read 57 = .ok (.istore 6, 2) := by decide +kernel
theorem dX6_read_59 : decode cX6_read 59 = .ok (.iconst 0, 1) := by decide +kernel
theorem dX6_read_60 : decode cX6_read 60 = .ok (.istore 7, 2) := by decide +kernel
theorem dX6_read_62 : decode cX6_read 62 = .ok (.iload 7, 2) := by decide +kernel
theorem dX6_read_64 : decode cX6_read 64 = .ok (.iload 4, 2) := by decide +kernel
theorem dX6_read_66 : decode cX6_read 66 = .ok (.if_icmp .ge 202, 3) := by decide +kernel
theorem dX6_read_69 : decode cX6_read 69 = .ok (.iload 5, 2) := by decide +kernel
theorem dX6_read_71 : decode cX6_read 71 = .ok (.ifCond .ne 197, 3) := by decide +kernel
theorem dX6_read_74 : decode cX6_read 74 = .ok (.iconst 0, 1) := by decide +kernel
theorem dX6_read_75 : decode cX6_read 75 = .ok (.istore 8, 2) := by decide +kernel
theorem dX6_read_77 : decode cX6_read 77 = .ok (.iload 8, 2) := by decide +kernel
theorem dX6_read_79 : decode cX6_read 79 = .ok (.iconst 4, 1) := by decide +kernel
theorem dX6_read_80 : decode cX6_read 80 = .ok (.if_icmp .ge 84, 3) := by decide +kernel
theorem dX6_read_83 : decode cX6_read 83 = .ok (.iload 5, 2) := by decide +kernel
theorem dX6_read_85 : decode cX6_read 85 = .ok (.ifCond .ne 79, 3) := by decide +kernel
theorem dX6_read_88 : decode cX6_read 88 = .ok (.iload_n 3, 1) := by decide +kernel
theorem dX6_read_89 : decode cX6_read 89 = .ok (.i2l, 1) := by decide +kernel
theorem dX6_read_90 : decode cX6_read 90 = .ok (.iconst 4, 1) := by decide +kernel
theorem dX6_read_91 : decode cX6_read 91 = .ok (.iload 7, 2) := by decide +kernel
theorem dX6_read_93 : decode cX6_read 93 = .ok (.imul, 1) := by decide +kernel
theorem dX6_read_94 : decode cX6_read 94 = .ok (.i2l, 1) := by decide +kernel
theorem dX6_read_95 : decode cX6_read 95 = .ok (.ladd, 1) := by decide +kernel
theorem dX6_read_96 : decode cX6_read 96 = .ok (.iload 8, 2) := by decide +kernel
theorem dX6_read_98 : decode cX6_read 98 = .ok (.i2l, 1) := by decide +kernel
theorem dX6_read_99 : decode cX6_read 99 = .ok (.ladd, 1) := by decide +kernel
theorem dX6_read_100 : decode cX6_read 100 = .ok (.lstore 9, 2) := by decide +kernel
theorem dX6_read_102 : decode cX6_read 102 = .ok (.aload_n 0, 1) := by decide +kernel
theorem dX6_read_103 : decode cX6_read 103 = .ok (.getfield 50, 3) := by decide +kernel
theorem dX6_read_106 : decode cX6_read 106 = .ok (.iload_n 1, 1) := by decide +kernel
theorem dX6_read_107 : decode cX6_read 107 = .ok (.iaload, 1) := by decide +kernel
theorem dX6_read_108 : decode cX6_read 108 = .ok (.bipush (-4), 2) := by decide +kernel
theorem dX6_read_110 : decode cX6_read 110 = .ok (.if_icmp .ne 7, 3) := by decide +kernel
theorem dX6_read_113 : decode cX6_read 113 = .ok (.iconst 1, 1) := by decide +kernel
theorem dX6_read_114 : decode cX6_read 114 = .ok (.goto 42, 3) := by decide +kernel
theorem dX6_read_117 : decode cX6_read 117 = .ok (.aload_n 0, 1) := by decide +kernel
theorem dX6_read_118 : decode cX6_read 118 = .ok (.getfield 50, 3) := by decide +kernel
theorem dX6_read_121 : decode cX6_read 121 = .ok (.iload_n 1, 1) := by decide +kernel
theorem dX6_read_122 : decode cX6_read 122 = .ok (.iaload, 1) := by decide +kernel
theorem dX6_read_123 : decode cX6_read 123 = .ok (.iload_n 2, 1) := by decide +kernel
theorem dX6_read_124 : decode cX6_read 124 = .ok (.if_icmp .eq 7, 3) := by decide +kernel
theorem dX6_read_127 : decode cX6_read 127 = .ok (.iconst 3, 1) := by decide +kernel
theorem dX6_read_128 : decode cX6_read 128 = .ok (.goto 28, 3) := by decide +kernel
theorem dX6_read_131 : decode cX6_read 131 = .ok (.lload 9, 2) := by decide +kernel
theorem dX6_read_133 : decode cX6_read 133 = .ok (.lconst 0, 1) := by decide +kernel
theorem dX6_read_134 : decode cX6_read 134 = .ok (.lcmp, 1) := by decide +kernel
theorem dX6_read_135 : decode cX6_read 135 = .ok (.ifCond .lt 16, 3) := by decide +kernel
theorem dX6_read_138 : decode cX6_read 138 = .ok (.lload 9, 2) := by decide +kernel
theorem dX6_read_140 : decode cX6_read 140 = .ok (.aload_n 0, 1) := by decide +kernel
theorem dX6_read_141 : decode cX6_read 141 = .ok (.getfield 53, 3) := by decide +kernel
theorem dX6_read_144 : decode cX6_read 144 = .ok (.iload_n 1, 1) := by decide +kernel
theorem dX6_read_145 : decode cX6_read 145 = .ok (.iaload, 1) := by decide +kernel
theorem dX6_read_146 : decode cX6_read 146 = .ok (.i2l, 1) := by decide +kernel
theorem dX6_read_147 : decode cX6_read 147 = .ok (.lcmp, 1) := by decide +kernel
theorem dX6_read_148 : decode cX6_read 148 = .ok (.ifCond .lt 7, 3) := by decide +kernel
theorem dX6_read_151 : decode cX6_read 151 = .ok (.iconst 2, 1) := by decide +kernel
theorem dX6_read_152 : decode cX6_read 152 = .ok (.goto 4, 3) := by decide +kernel
theorem dX6_read_155 : decode cX6_read 155 = .ok (.iconst 0, 1) := by decide +kernel
theorem dX6_read_156 : decode cX6_read 156 = .ok (.istore 5, 2) := by decide +kernel
theorem dX6_read_158 : decode cX6_read 158 = .ok (.iinc 8 1, 3) := by decide +kernel
theorem dX6_read_161 : decode cX6_read 161 = .ok (.goto (-84), 3) := by decide +kernel
theorem dX6_read_164 : decode cX6_read 164 = .ok (.iload 5, 2) := by decide +kernel
theorem dX6_read_166 : decode cX6_read 166 = .ok (.ifCond .ne 96, 3) := by decide +kernel
theorem dX6_read_169 : decode cX6_read 169 = .ok (.bipush 40, 2) := by decide +kernel
theorem dX6_read_171 : decode cX6_read 171 = .ok (.iload_n 1, 1) := by decide +kernel
theorem dX6_read_172 : decode cX6_read 172 = .ok (.imul, 1) := by decide +kernel
theorem dX6_read_173 : decode cX6_read 173 = .ok (.iload_n 3, 1) := by decide +kernel
theorem dX6_read_174 : decode cX6_read 174 = .ok (.iadd, 1) := by decide +kernel
theorem dX6_read_175 : decode cX6_read 175 = .ok (.iconst 4, 1) := by decide +kernel
theorem dX6_read_176 : decode cX6_read 176 = .ok (.iload 7, 2) := by decide +kernel
theorem dX6_read_178 : decode cX6_read 178 = .ok (.imul, 1) := by decide +kernel
theorem dX6_read_179 : decode cX6_read 179 = .ok (.iadd, 1) := by decide +kernel
theorem dX6_read_180 : decode cX6_read 180 = .ok (.istore 8, 2) := by decide +kernel
theorem dX6_read_182 : decode cX6_read 182 = .ok (.aload_n 0, 1) := by decide +kernel
theorem dX6_read_183 : decode cX6_read 183 = .ok (.aload_n 0, 1) := by decide +kernel
theorem dX6_read_184 : decode cX6_read 184 = .ok (.getfield 56, 3) := by decide +kernel
theorem dX6_read_187 : decode cX6_read 187 = .ok (.iload 8, 2) := by decide +kernel
theorem dX6_read_189 : decode cX6_read 189 = .ok (.iaload, 1) := by decide +kernel
theorem dX6_read_190 : decode cX6_read 190 = .ok (.aload_n 0, 1) := by decide +kernel
theorem dX6_read_191 : decode cX6_read 191 = .ok (.getfield 56, 3) := by decide +kernel
theorem dX6_read_194 : decode cX6_read 194 = .ok (.iload 8, 2) := by decide +kernel
theorem dX6_read_196 : decode cX6_read 196 = .ok (.iconst 1, 1) := by decide +kernel
theorem dX6_read_197 : decode cX6_read 197 = .ok (.iadd, 1) := by decide +kernel
theorem dX6_read_198 : decode cX6_read 198 = .ok (.iaload, 1) := by decide +kernel
theorem dX6_read_199 : decode cX6_read 199 = .ok (.aload_n 0, 1) := by decide +kernel
theorem dX6_read_200 : decode cX6_read 200 = .ok (.getfield 56, 3) := by decide +kernel
theorem dX6_read_203 : decode cX6_read 203 = .ok (.iload 8, 2) := by decide +kernel
theorem dX6_read_205 : decode cX6_read 205 = .ok (.iconst 2, 1) := by decide +kernel
theorem dX6_read_206 : decode cX6_read 206 = .ok (.iadd, 1) := by decide +kernel
theorem dX6_read_207 : decode cX6_read 207 = .ok (.iaload, 1) := by decide +kernel
theorem dX6_read_208 : decode cX6_read 208 = .ok (.aload_n 0, 1) := by decide +kernel
theorem dX6_read_209 : decode cX6_read 209 = .ok (.getfield 56, 3) := by decide +kernel
theorem dX6_read_212 : decode cX6_read 212 = .ok (.iload 8, 2) := by decide +kernel
theorem dX6_read_214 : decode cX6_read 214 = .ok (.iconst 3, 1) := by decide +kernel
theorem dX6_read_215 : decode cX6_read 215 = .ok (.iadd, 1) := by decide +kernel
theorem dX6_read_216 : decode cX6_read 216 = .ok (.iaload, 1) := by decide +kernel
theorem dX6_read_217 : decode cX6_read 217 = .ok (.invokevirtual 309, 3) := by decide +kernel
theorem dX6_read_220 : decode cX6_read 220 = .ok (.ifCond .ge 39, 3) := by decide +kernel
theorem dX6_read_223 : decode cX6_read 223 = .ok (.iconst 0, 1) := by decide +kernel
theorem dX6_read_224 : decode cX6_read 224 = .ok (.istore 9, 2) := by decide +kernel
theorem dX6_read_226 : decode cX6_read 226 = .ok (.iload 9, 2) := by decide +kernel
theorem dX6_read_228 : decode cX6_read 228 = .ok (.bipush 35, 2) := by decide +kernel
theorem dX6_read_230 : decode cX6_read 230 = .ok (.if_icmp .ge 23, 3) := by decide +kernel
theorem dX6_read_233 : decode cX6_read 233 = .ok (.aload_n 0, 1) := by decide +kernel
theorem dX6_read_234 : decode cX6_read 234 = .ok (.getfield 7, 3) := by decide +kernel
theorem dX6_read_237 : decode cX6_read 237 = .ok (.iload 9, 2) := by decide +kernel
theorem dX6_read_239 : decode cX6_read 239 = .ok (.aload_n 0, 1) := by decide +kernel
theorem dX6_read_240 : decode cX6_read 240 = .ok (.getfield 59, 3) := by decide +kernel
theorem dX6_read_243 : decode cX6_read 243 = .ok (.iload 9, 2) := by decide +kernel
theorem dX6_read_245 : decode cX6_read 245 = .ok (.iaload, 1) := by decide +kernel
theorem dX6_read_246 : decode cX6_read 246 = .ok (.iastore, 1) := by decide +kernel
theorem dX6_read_247 : decode cX6_read 247 = .ok (.iinc 9 1, 3) := by decide +kernel
theorem dX6_read_250 : decode cX6_read 250 = .ok (.goto (-24), 3) := by decide +kernel
theorem dX6_read_253 : decode cX6_read 253 = .ok (.bipush (-20), 2) := by decide +kernel
theorem dX6_read_255 : decode cX6_read 255 = .ok (.iload 7, 2) := by decide +kernel
theorem dX6_read_257 : decode cX6_read 257 = .ok (.isub, 1) := by decide +kernel
theorem dX6_read_258 : decode cX6_read 258 = .ok (.ireturn, 1) := by decide +kernel
theorem dX6_read_259 : decode cX6_read 259 = .ok (.iinc 6 1, 3) := by decide +kernel
theorem dX6_read_262 : decode cX6_read 262 = .ok (.iinc 7 1, 3) := by decide +kernel
theorem dX6_read_265 : decode cX6_read 265 = .ok (.goto (-203), 3) := by decide +kernel
theorem dX6_read_268 : decode cX6_read 268 = .ok (.aload_n 0, 1) := by decide +kernel
theorem dX6_read_269 : decode cX6_read 269 = .ok (.iload 5, 2) := by decide +kernel
theorem dX6_read_271 : decode cX6_read 271 = .ok (.putfield 312, 3) := by decide +kernel
theorem dX6_read_274 : decode cX6_read 274 = .ok (.iload 6, 2) := by decide +kernel
theorem dX6_read_276 : decode cX6_read 276 = .ok (.ireturn, 1) := by decide +kernel
theorem dX6_torn_0 : decode cX6_torn 0 = .ok (.aload_n 0, 1) := by decide +kernel
theorem dX6_torn_1 : decode cX6_torn 1 = .ok (.getfield 312, 3) := by decide +kernel
theorem dX6_torn_4 : decode cX6_torn 4 = .ok (.ireturn, 1) := by decide +kernel
theorem dX6_sumOf_0 : decode cX6_sumOf 0 = .ok (.iconst 0, 1) := by decide +kernel
theorem dX6_sumOf_1 : decode cX6_sumOf 1 = .ok (.istore_n 3, 1) := by decide +kernel
theorem dX6_sumOf_2 : decode cX6_sumOf 2 = .ok (.iconst 0, 1) := by decide +kernel
theorem dX6_sumOf_3 : decode cX6_sumOf 3 = .ok (.istore 4, 2) := by decide +kernel
theorem dX6_sumOf_5 : decode cX6_sumOf 5 = .ok (.iload 4, 2) := by decide +kernel
theorem dX6_sumOf_7 : decode cX6_sumOf 7 = .ok (.aload_n 0, 1) := by decide +kernel
theorem dX6_sumOf_8 : decode cX6_sumOf 8 = .ok (.getfield 7, 3) := by decide +kernel
theorem dX6_sumOf_11 : decode cX6_sumOf 11 = .ok (.iconst 1, 1) := by decide +kernel
theorem dX6_sumOf_12 : decode cX6_sumOf 12 = .ok (.iaload, 1) := by decide +kernel
theorem dX6_sumOf_13 : decode cX6_sumOf 13 = .ok (.if_icmp .ge 68, 3) := by decide +kernel
theorem dX6_sumOf_16 : decode cX6_sumOf 16 = .ok (.iconst 0, 1) := by decide +kernel
theorem dX6_sumOf_17 : decode cX6_sumOf 17 = .ok (.istore 5, 2) := by decide +kernel
theorem dX6_sumOf_19 : decode cX6_sumOf 19 = .ok (.iload 5, 2) := by decide +kernel
theorem dX6_sumOf_21 : decode cX6_sumOf 21 = .ok (.aload_n 0, 1) := by decide +kernel
theorem dX6_sumOf_22 : decode cX6_sumOf 22 = .ok (.getfield 7, 3) := by decide +kernel
theorem dX6_sumOf_25 : decode cX6_sumOf 25 = .ok (.iconst 2, 1) := by decide +kernel
theorem dX6_sumOf_26 : decode cX6_sumOf 26 = .ok (.iaload, 1) := by decide +kernel
theorem dX6_sumOf_27 : decode cX6_sumOf 27 = .ok (.if_icmp .ge 48, 3) := by decide +kernel
theorem dX6_sumOf_30 : decode cX6_sumOf 30 = .ok (.iload_n 3, 1) := by decide +kernel
theorem dX6_sumOf_31 : decode cX6_sumOf 31 = .ok (.iload_n 2, 1) := by decide +kernel
theorem dX6_sumOf_32 : decode cX6_sumOf 32 = .ok (.ifCond .eq 26, 3) := by decide +kernel
theorem dX6_sumOf_35 : decode cX6_sumOf 35 = .ok (.aload_n 0, 1) := by decide +kernel
theorem dX6_sumOf_36 : decode cX6_sumOf 36 = .ok (.iload_n 1, 1) := by decide +kernel
theorem dX6_sumOf_37 : decode cX6_sumOf 37 = .ok (.iload 4, 2) := by decide +kernel
theorem dX6_sumOf_39 : decode cX6_sumOf 39 = .ok (.iload 5, 2) := by decide +kernel
theorem dX6_sumOf_41 : decode cX6_sumOf 41 = .ok (.invokevirtual 150, 3) := by decide +kernel
theorem dX6_sumOf_44 : decode cX6_sumOf 44 = .ok (.ifCond .eq 7, 3) := by decide +kernel
theorem dX6_sumOf_47 : decode cX6_sumOf 47 = .ok (.iconst 1, 1) := by decide +kernel
theorem dX6_sumOf_48 : decode cX6_sumOf 48 = .ok (.goto 4, 3) := by decide +kernel
theorem dX6_sumOf_51 : decode cX6_sumOf 51 = .ok (.iconst 0, 1) := by decide +kernel
theorem dX6_sumOf_52 : decode cX6_sumOf 52 = .ok (.invokestatic 214, 3) := by decide +kernel
theorem dX6_sumOf_55 : decode cX6_sumOf 55 = .ok (.goto 12, 3) := by decide +kernel
theorem dX6_sumOf_58 : decode cX6_sumOf 58 = .ok (.aload_n 0, 1) := by decide +kernel
theorem dX6_sumOf_59 : decode cX6_sumOf 59 = .ok (.iload_n 1, 1) := by decide +kernel
theorem dX6_sumOf_60 : decode cX6_sumOf 60 = .ok (.iload 4, 2) := by decide +kernel
theorem dX6_sumOf_62 : decode cX6_sumOf 62 = .ok (.iload 5, 2) := by decide +kernel
theorem dX6_sumOf_64 : decode cX6_sumOf 64 = .ok (.invokevirtual 150, 3) := by decide +kernel
theorem dX6_sumOf_67 : decode cX6_sumOf 67 = .ok (.iadd, 1) := by decide +kernel
theorem dX6_sumOf_68 : decode cX6_sumOf 68 = .ok (.istore_n 3, 1) := by decide +kernel
theorem dX6_sumOf_69 : decode cX6_sumOf 69 = .ok (.iinc 5 1, 3) := by decide +kernel
theorem dX6_sumOf_72 : decode cX6_sumOf 72 = .ok (.goto (-53), 3) := by decide +kernel
theorem dX6_sumOf_75 : decode cX6_sumOf 75 = .ok (.iinc 4 1, 3) := by decide +kernel
theorem dX6_sumOf_78 : decode cX6_sumOf 78 = .ok (.goto (-73), 3) := by decide +kernel
theorem dX6_sumOf_81 : decode cX6_sumOf 81 = .ok (.iload_n 3, 1) := by decide +kernel
theorem dX6_sumOf_82 : decode cX6_sumOf 82 = .ok (.ireturn, 1) := by decide +kernel
theorem dX6_count_0 : decode cX6_count 0 = .ok (.iload_n 1, 1) := by decide +kernel
theorem dX6_count_1 : decode cX6_count 1 = .ok (.tableswitch 115 0 5 #[39, 59, 73, 78, 101, 108], 39) := by decide +kernel
theorem dX6_count_40 : decode cX6_count 40 = .ok (.aload_n 0, 1) := by decide +kernel
theorem dX6_count_41 : decode cX6_count 41 = .ok (.getfield 16, 3) := by decide +kernel
theorem dX6_count_44 : decode cX6_count 44 = .ok (.iconst 0, 1) := by decide +kernel
theorem dX6_count_45 : decode cX6_count 45 = .ok (.baload, 1) := by decide +kernel
theorem dX6_count_46 : decode cX6_count 46 = .ok (.invokestatic 214, 3) := by decide +kernel
theorem dX6_count_49 : decode cX6_count 49 = .ok (.aload_n 0, 1) := by decide +kernel
theorem dX6_count_50 : decode cX6_count 50 = .ok (.getfield 16, 3) := by decide +kernel
theorem dX6_count_53 : decode cX6_count 53 = .ok (.iconst 1, 1) := by decide +kernel
theorem dX6_count_54 : decode cX6_count 54 = .ok (.baload, 1) := by decide +kernel
theorem dX6_count_55 : decode cX6_count 55 = .ok (.invokestatic 214, 3) := by decide +kernel
theorem dX6_count_58 : decode cX6_count 58 = .ok (.iadd, 1) := by decide +kernel
theorem dX6_count_59 : decode cX6_count 59 = .ok (.ireturn, 1) := by decide +kernel
theorem dX6_count_60 : decode cX6_count 60 = .ok (.aload_n 0, 1) := by decide +kernel
theorem dX6_count_61 : decode cX6_count 61 = .ok (.iconst 0, 1) := by decide +kernel
theorem dX6_count_62 : decode cX6_count 62 = .ok (.iconst 1, 1) := by decide +kernel
theorem dX6_count_63 : decode cX6_count 63 = .ok (.invokevirtual 315, 3) := by decide +kernel
theorem dX6_count_66 : decode cX6_count 66 = .ok (.aload_n 0, 1) := by decide +kernel
theorem dX6_count_67 : decode cX6_count 67 = .ok (.iconst 1, 1) := by decide +kernel
theorem dX6_count_68 : decode cX6_count 68 = .ok (.iconst 1, 1) := by decide +kernel
theorem dX6_count_69 : decode cX6_count 69 = .ok (.invokevirtual 315, 3) := by decide +kernel
theorem dX6_count_72 : decode cX6_count 72 = .ok (.iadd, 1) := by decide +kernel
theorem dX6_count_73 : decode cX6_count 73 = .ok (.ireturn, 1) := by decide +kernel
theorem dX6_count_74 : decode cX6_count 74 = .ok (.aload_n 0, 1) := by decide +kernel
theorem dX6_count_75 : decode cX6_count 75 = .ok (.getfield 68, 3) := by decide +kernel
theorem dX6_count_78 : decode cX6_count 78 = .ok (.ireturn, 1) := by decide +kernel
theorem dX6_count_79 : decode cX6_count 79 = .ok (.aload_n 0, 1) := by decide +kernel
theorem dX6_count_80 : decode cX6_count 80 = .ok (.getfield 50, 3) := by decide +kernel
theorem dX6_count_83 : decode cX6_count 83 = .ok (.iconst 0, 1) := by decide +kernel
theorem dX6_count_84 : decode cX6_count 84 = .ok (.iaload, 1) := by decide +kernel
theorem dX6_count_85 : decode cX6_count 85 = .ok (.bipush (-4), 2) := by decide +kernel
theorem dX6_count_87 : decode cX6_count 87 = .ok (.if_icmp .ne 8, 3) := by decide +kernel
theorem dX6_count_90 : decode cX6_count 90 = .ok (.bipush (-4), 2) := by decide +kernel
theorem dX6_count_92 : decode cX6_count 92 = .ok (.goto 9, 3) := by decide +kernel
theorem dX6_count_95 : decode cX6_count 95 = .ok (.aload_n 0, 1) := by decide +kernel
theorem dX6_count_96 : decode cX6_count 96 = .ok (.getfield 53, 3) := by decide +kernel
theorem dX6_count_99 : decode cX6_count 99 = .ok (.iconst 0, 1) := by decide +kernel
theorem dX6_count_100 : decode cX6_count 100 = .ok (.iaload, 1) := by decide +kernel
theorem dX6_count_101 : decode cX6_count 101 = .ok (.ireturn, 1) := by decide +kernel
theorem dX6_count_102 : decode cX6_count 102 = .ok (.aload_n 0, 1) := by decide +kernel
theorem dX6_count_103 : decode cX6_count 103 = .ok (.iconst 0, 1) := by decide +kernel
theorem dX6_count_104 : decode cX6_count 104 = .ok (.iconst 0, 1) := by decide +kernel
theorem dX6_count_105 : decode cX6_count 105 = .ok (.invokevirtual 315, 3) := by decide +kernel
theorem dX6_count_108 : decode cX6_count 108 = .ok (.ireturn, 1) := by decide +kernel
theorem dX6_count_109 : decode cX6_count 109 = .ok (.aload_n 0, 1) := by decide +kernel
theorem dX6_count_110 : decode cX6_count 110 = .ok (.iconst 1, 1) := by decide +kernel
theorem dX6_count_111 : decode cX6_count 111 = .ok (.iconst 0, 1) := by decide +kernel
theorem dX6_count_112 : decode cX6_count 112 = .ok (.invokevirtual 315, 3) := by decide +kernel
theorem dX6_count_115 : decode cX6_count 115 = .ok (.ireturn, 1) := by decide +kernel
theorem dX6_count_116 : decode cX6_count 116 = .ok (.iconst (-1), 1) := by decide +kernel
theorem dX6_count_117 : decode cX6_count 117 = .ok (.ireturn, 1) := by decide +kernel
end
section
/-! THE FRAME: a flat memory of ints (cell, slot), a fixed shape of 50 cells; V: what the machine does from a frame, said over the memory alone -/
abbrev Mem : Type := Nat → Nat → Int32
abbrev GG : Type := va_G × (Nat → Nat) × (Nat → ClassId)
def NC : Nat := 50
def nN (k : Nat) : List (Option Nat) := List.replicate k none
def SH : List (Nat × Nat × List (Option Nat)) := [
  (5, 0, [some 1, some 5, some 7, some 12, some 13, some 22, some 30, some 31, none, none]),
  (3, 0, some 2 :: some 3 :: nN 10), (11, 160, []),
  (1, 0, some 4 :: nN 3), (10, 32, []),
  (1, 0, some 6 :: nN 3), (10, 32, []),
  (13, 2, [some 8, some 10]),
  (1, 0, some 9 :: nN 3), (10, 32, []),
  (1, 0, some 11 :: nN 3), (10, 32, []),
  (12, 2, []),
  (14, 4, [some 14, some 16, some 18, some 20]),
  (2, 0, some 15 :: nN 2), (10, 40, []),
  (2, 0, some 17 :: nN 2), (10, 40, []),
  (2, 0, some 19 :: nN 2), (10, 40, []),
  (2, 0, some 21 :: nN 2), (10, 40, []),
  (4, 0, [some 23, some 25, some 27, some 28, some 29]),
  (0, 0, some 24 :: nN 3), (10, 480, []),
  (1, 0, some 26 :: nN 3), (10, 32, []),
  (10, 5, []), (10, 5, []), (10, 4, []), (10, 45, []), (10, 45, []),
  (6, 0, [some 33, some 34, some 35, some 36, none, none, some 37, none, none, none, none, none, none, none, some 38, none, none, none, some 39, some 40, some 41, some 42, some 43, some 44, some 45, some 46, some 47, some 48, none, some 49]),
  (10, 35, []), (10, 70, []), (12, 2, []), (10, 35, []), (10, 160, []), (10, 504, []), (10, 5, []), (10, 5, []), (10, 5, []), (10, 4, []), (10, 35, []), (10, 45, []), (10, 45, []), (10, 4, []), (10, 4, []), (10, 160, []), (10, 35, [])]
def kd (i : Nat) : Nat := (SH.getD i (99, 0, [])).1
def ln (i : Nat) : Nat := (SH.getD i (99, 0, [])).2.1
def rf (i : Nat) : List (Option Nat) := (SH.getD i (99, 0, [])).2.2
def rfn (i k : Nat) : Nat := ((rf i).getD k none).getD 0
def tyA (i : Nat) : FieldType := if kd i = 10 then .int else if kd i = 11 then .byte else if kd i = 12 then .boolean else if kd i = 13 then .object RX1 else .object RX2
abbrev vwCl : List vw_C := [(RX0, TX0, 4), (RX1, TX1, 4), (RX2, TX2, 3), (RX3, TX3, 12), (RX4, TX4, 5), (RX5, TX5, 10), (RX6, TX6, 30)]
def fv (G : GG) (M : Mem) (i k : Nat) (r : Option Nat) : Value := match r with
  | none => .int (M i k)
  | some j => .ref (G.2.1 j)
def fl (G : GG) (M : Mem) (i : Nat) : List Value := (rf i).mapIdx (fv G M i)
def ce (G : GG) (M : Mem) (i : Nat) : va_E :=
  if kd i < 10 then .inr (kd i, fl G M i) else if kd i < 13 then .inl (G.2.2 i, ln i, .inl (M i)) else .inl (G.2.2 i, ln i, .inr (.inr (.inr (.inr (fun k => ((rf i).getD k none).map G.2.1)))))
def wo (G : GG) (M : Mem) : va_W := (List.range NC).map (fun i => (G.2.1 i, ce G M i))
def wr (M : Mem) (c k : Nat) (v : Int32) : Mem := fun a b => if a = c then (if b = k then v else M a b) else M a b
def wra (M : Mem) (c : Nat) (f : Nat → Int32) : Mem := fun a b => if a = c then f b else M a b
theorem wr_ne {M : Mem} {c k a : Nat} {v : Int32} (h : a ≠ c) : wr M c k v a = M a := by funext b; simp [wr, h]
theorem wra_ne {M : Mem} {c a : Nat} {f : Nat → Int32} (h : a ≠ c) : wra M c f a = M a := by funext b; simp [wra, h]
theorem wra_eq {M : Mem} {c : Nat} {f : Nat → Int32} : wra M c f c = f := by funext b; simp [wra]
theorem wr_upd {M : Mem} {c k : Nat} {v : Int32} : wr M c k v c = upd (M c) k v := by funext b; simp [wr, upd]
theorem wo_at {G : GG} {M : Mem} {i : Nat} (hi : i < NC) : (wo G M)[i]? = some (G.2.1 i, ce G M i) := by simp [wo, hi]
theorem wo_inv {G : GG} {M : Mem} {i : Nat} {q : Nat × va_E} (h : (wo G M)[i]? = some q) : i < NC ∧ q = (G.2.1 i, ce G M i) := by
  have hl : i < (wo G M).length := (List.getElem?_eq_some_iff.mp h).1
  have hi : i < NC := by simpa [wo] using hl
  rw [wo_at hi] at h
  exact ⟨hi, (Option.some.inj h).symm⟩
theorem ce_congr {G : GG} {M M' : Mem} {j : Nat} (h : M' j = M j) : ce G M' j = ce G M j := by
  have hf : fv G M' j = fv G M j := by
    funext k r
    cases r <;> simp [fv, h]
  simp only [ce, fl, hf, h]
theorem wo_set {G : GG} {M M' : Mem} {i : Nat} (hi : i < NC) (h : ∀ j, j ≠ i → M' j = M j) : (wo G M).set i (G.2.1 i, ce G M' i) = wo G M' := by
  apply List.ext_getElem?
  intro j
  by_cases hj : j = i
  · subst hj
    rw [List.getElem?_set_self (by simpa [wo] using hi), wo_at hi]
  · rw [List.getElem?_set_ne (fun q => hj q.symm)]
    simp only [wo, List.getElem?_map]
    cases hr : (List.range NC)[j]? with
    | none => rfl
    | some k =>
      have hk : k = j := by
        have := List.getElem?_eq_some_iff.mp hr
        obtain ⟨_, h2⟩ := this
        simpa using h2.symm
      subst hk
      simp only [Option.map_some, ce_congr (h k hj)]
def IG (G : GG) : Prop := ∀ i j, i < NC → j < NC → G.2.1 i = G.2.1 j → i = j
def AG (G : GG) : Nat → Prop := fun q => ∃ i, i < NC ∧ q = G.2.1 i
theorem wo_D {G : GG} {M : Mem} (hI : IG G) : va_D (AG G) (wo G M) := by
  refine ⟨fun i j x y hx hy h => ?_, fun k q hk => ?_⟩
  · obtain ⟨h1, rfl⟩ := wo_inv hx
    obtain ⟨h2, rfl⟩ := wo_inv hy
    exact hI i j h1 h2 h
  · obtain ⟨h1, rfl⟩ := wo_inv hk
    exact ⟨k, h1, rfl⟩
/-- what the tables say of the world's classes and arrays -/
def isNest (w : Cond) : Bool := match w with
  | .fieldLinkNest .. => true
  | .methodLinkNest .. => true
  | _ => false
/-- the words that go from a caller to what it calls: those that keep, and nest mates' links -/
def tb : List Cond := lw_tbl.filter (fun w => goodWord w || isNest w)
theorem tb_mem {w : Cond} (h : w ∈ lw_tbl) (hg : (goodWord w || isNest w) = true) : w ∈ tb := List.mem_filter.mpr ⟨h, hg⟩
theorem tb_lw {w : Cond} (h : w ∈ tb) : w ∈ lw_tbl := (List.mem_filter.mp h).1
theorem tbl_parts {w : Cond} (h : w ∈ tb) (hg : goodWord w = false) : isNest w = true := by
  have := (List.mem_filter.mp h).2
  simpa [hg] using this
def NG (U : State) : Prop := ∀ w ∈ tb, goodWord w = false → va_Nw w U
theorem NG.moved {u U : State} (hW : u.WarmedH U.vm) (h : NG u) : NG U := fun w hw hg => by
  have hn := tbl_parts hw hg
  have hz := h w hw hg
  unfold isNest at hn
  split at hn
  next => exact va_Nw.warmF hW hz
  next => exact va_Nw.warmM hW hz
  next => cases hn
theorem NG.same {u U : State} (hv : u.vm = U.vm) (h : NG u) : NG U := fun w hw hg => by
  have hn := tbl_parts hw hg
  have hz := h w hw hg
  unfold isNest at hn
  split at hn
  next => exact va_Nw.same rfl hv hz
  next => exact va_Nw.same rfl hv hz
  next => cases hn
def KG (G : GG) (U : State) : Prop := (∀ (c : Nat) (q : vw_C), vwCl[c]? = some q → u_Kn U q.1 q.2.1 q.2.2 (G.1.1 c) (G.1.2 c)) ∧ (∀ i, i < NC → 10 ≤ kd i → ArrOfT U (G.2.2 i) (tyA i) ∧ va_RA U (G.2.2 i) (tyA i)) ∧ NG U
theorem KG.moved {G : GG} {u U : State} (hW : u.WarmedH U.vm) (h : KG G u) : KG G U := ⟨fun c q hq => u_Kn_moved hW.alike (h.1 c q hq), fun i hi hk => ⟨arrOfT_moved hW.alike (h.2.1 i hi hk).1, (h.2.1 i hi hk).2.moved hW.alike⟩, h.2.2.moved hW⟩
theorem KG.same {G : GG} {u U : State} (hv : u.vm = U.vm) (h : KG G u) : KG G U := by
  have ha : u.vm.Alike U.vm := by rw [hv]; exact Vm.Alike.refl U.vm
  exact ⟨fun c q hq => u_Kn_moved ha (h.1 c q hq), fun i hi hk => ⟨arrOfT_moved ha (h.2.1 i hi hk).1, (h.2.1 i hi hk).2.moved ha⟩, h.2.2.same hv⟩
theorem KG.ob {G : GG} {U : State} (h : KG G U) : va_K G.1 vwCl [] U := ⟨h.1, fun k q hk => by simp at hk⟩
theorem KG.ar {G : GG} {U : State} (h : KG G U) {i : Nat} (hi : i < NC) (hk : 10 ≤ kd i) {ty : FieldType} (ht : tyA i = ty) : va_K G.1 vwCl [(G.2.2 i, ty)] U := ⟨h.1, fun k q hq => by
  cases k with
  | zero =>
    have e : q = (G.2.2 i, ty) := by simpa using hq.symm
    subst e
    rw [← ht]
    exact h.2.1 i hi hk
  | succ k => simp at hq⟩
theorem KG.ar2 {G : GG} {U : State} (h : KG G U) {i j : Nat} (hi : i < NC) (hk : 10 ≤ kd i) (hj : j < NC) (hkj : 10 ≤ kd j) {ty : FieldType} (ht : tyA i = ty) (htj : tyA j = ty) : va_K G.1 vwCl [(G.2.2 i, ty), (G.2.2 j, ty)] U := (h.ar hi hk ht).app (h.ar hj hkj htj)
abbrev XX : Type := Program × Launch × Env × Room × State × MethodId × Array Value × List Frame × Method × Code × Nat × Nat × (State → Prop)
abbrev xp (X : XX) : Program := X.1
abbrev xl (X : XX) : Launch := X.2.1
abbrev xe (X : XX) : Env := X.2.2.1
abbrev xR (X : XX) : Room := X.2.2.2.1
abbrev xs (X : XX) : State := X.2.2.2.2.1
abbrev xm (X : XX) : MethodId := X.2.2.2.2.2.1
abbrev xa (X : XX) : Array Value := X.2.2.2.2.2.2.1
abbrev xb (X : XX) : List Frame := X.2.2.2.2.2.2.2.1
abbrev xh (X : XX) : Method := X.2.2.2.2.2.2.2.2.1
abbrev xc (X : XX) : Code := X.2.2.2.2.2.2.2.2.2.1
abbrev xk (X : XX) : Nat := X.2.2.2.2.2.2.2.2.2.2.1
abbrev xn (X : XX) : Nat := X.2.2.2.2.2.2.2.2.2.2.2.1
abbrev xQ (X : XX) : State → Prop := X.2.2.2.2.2.2.2.2.2.2.2.2
abbrev WX (X : XX) (H : Heap) (locs : List Loc) (g : JFrame) : Prop := W (xp X) (xl X) (xe X) (xR X) (xs X) (xm X) (xa X) (xb X) (xh X) (xc X) H locs (xk X) (xn X) (xQ X) g
/-- the locals: by place, none where nothing is told -/
def lvp (lv : List (Option Value)) : List (Nat × Value) := (List.range lv.length).filterMap (fun k => match lv[k]? with
  | some (some v) => some (k, v)
  | _ => none)
theorem lvp_mem {lv : List (Option Value)} {k : Nat} {v : Value} : (k, v) ∈ lvp lv ↔ lv[k]? = some (some v) := by
  unfold lvp
  rw [List.mem_filterMap]
  constructor
  · rintro ⟨a, ha, h⟩
    split at h
    next w hw =>
      cases h
      exact hw
    next => cases h
  · intro h
    refine ⟨k, List.mem_range.mpr (List.getElem?_eq_some_iff.mp h).1, ?_⟩
    rw [h]
def V (X : XX) (G : GG) (nL : Nat) (M : Mem) (pc : Nat) (lv : List (Option Value)) (st : List Value) : Prop :=
  ∀ (H : Heap) (locs : List Loc) (ls : Array Slot), va_P G.1 vwCl (wo G M) H → va_S (AG G) (xs X).heap H locs → lv_has ls nL (lvp lv) → WX X H locs (F0 (xm X) pc ls st)
/-- what holds all through a method -/
def Cx (X : XX) (G : GG) (cc : ByteArray) (nL : Nat) (own : String) (fr lo : Nat) (ret : Option FieldType) : Prop :=
  (xp X).tables.exec = Jvm.exec ∧ (xc X).code = cc ∧ (xc X).maxLocals = nL ∧ (xs X).vm.findClass own = some (xm X).cls ∧ (∀ w ∈ tb, w.before (xa X) (xs X) = true) ∧ KG G (xs X) ∧ IG G ∧ fr ≤ (xR X).frames ∧ lo ≤ (xR X).locals ∧ (xh X).sig.returnType = ret ∧ (xh X).locks = false ∧ xk X ≤ (xR X).cells ∧ xn X ≤ (xR X).slots
def Ps (G : GG) (ov : Option Value) (M : Mem) : Array Value → State → Outcome → State → Prop := fun _ st o t => o = .returned ov ∧ va_P G.1 vwCl (wo G M) t.heap ∧ va_F (AG G) st t
def Pr (G : GG) (av : List Value) (M : Mem) : Array Value → State → Prop := fun v U => v = av.toArray ∧ KG G U ∧ va_P G.1 vwCl (wo G M) U.heap
def Rt (X : XX) (G : GG) (ov : Option Value) (M : Mem) : Prop := xQ X = MQ (xb X) (Ps G ov M) (xa X) (xs X) (xk X) (xn X) (AG G)
abbrev rmo (fr lo : Nat) : Room := { frames := fr, cells := 0, slots := 0, locals := lo }
def gw : List Cond := tb.filter goodWord
def Sp (l : Launch) (G : GG) (y : MethodName) (cy : ByteArray) (mL : Nat) (ret : Option FieldType) (fr lo : Nat) (av : List Value) (M : Mem) (ov : Option Value) (M' : Mem) : Prop :=
  Met l y (Cond.code y cy mL ret :: gw) (rmo fr lo) (Pr G av M) (Ps G ov M') 0 0 (AG G)
theorem Pr.blind {G : GG} {av : List Value} {M : Mem} : FrameBlind (Pr G av M) := fun a U g mk q => ⟨q.1, KG.same (u := U) (U := U.calling g mk a) rfl q.2.1, q.2.2⟩
end
section
/-! ROWS: an instruction over V -/
section VR
variable {X : XX} {G : GG} {M : Mem} {cc : ByteArray} {nL pc fr lo : Nat} {own : String} {ret : Option FieldType} {lv : List (Option Value)} {st : List Value}
theorem lv_get {ls : Array Slot} {k : Nat} {v : Value} (h : lv_has ls nL (lvp lv)) (hk : lv[k]? = some (some v)) : ls[k]? = some (.val v) := h.2.2 (k, v) (lvp_mem.mpr hk)
def lng (lv : List (Option Value)) (i : Nat) : Bool := match i with
  | 0 => false
  | k + 1 => match lv[k]? with
    | some (some v) => v.category == 2
    | _ => false
theorem lv_put1 {ls : Array Slot} {i : Nat} {v : Value} (h : lv_has ls nL ((i, v) :: (lvp lv).filter (fun q => !(q.1 == i) && !(q.1 + 1 == i && q.2.category == 2)))) (hg : lng lv i = false) : lv_has ls nL (lvp (lv.set i (some v))) := by
  refine ⟨h.1, h.2.1, fun q hq => h.2.2 q ?_⟩
  obtain ⟨k, w⟩ := q
  have hk := lvp_mem.mp hq
  by_cases hki : k = i
  · subst hki
    have hlt : k < lv.length := by
      have := (List.getElem?_eq_some_iff.mp hk).1
      simpa using this
    rw [List.getElem?_set_self hlt] at hk
    cases hk
    exact List.mem_cons_self
  · rw [List.getElem?_set_ne (fun z => hki z.symm)] at hk
    refine List.mem_cons_of_mem _ (List.mem_filter.mpr ⟨lvp_mem.mpr hk, ?_⟩)
    have hn : ¬ (k + 1 = i ∧ w.category = 2) := by
      rintro ⟨rfl, h2⟩
      simp [lng, hk, h2] at hg
    simp only [Bool.and_eq_true, Bool.not_eq_true', beq_eq_false_iff_ne, ne_eq, Bool.and_eq_false_iff]
    refine ⟨hki, ?_⟩
    by_cases h1 : k + 1 = i
    · exact Or.inr (fun h2 => hn ⟨h1, h2⟩)
    · exact Or.inl h1
theorem lv_put2 {ls : Array Slot} {i : Nat} {v : Value} (h : lv_has ls nL ((i, v) :: (lvp lv).filter (fun q => !(q.1 == i) && (!(q.1 == i + 1) && !(q.1 + 1 == i && q.2.category == 2))))) (hg : lng lv i = false) : lv_has ls nL (lvp ((lv.set i (some v)).set (i + 1) none)) := by
  refine ⟨h.1, h.2.1, fun q hq => h.2.2 q ?_⟩
  obtain ⟨k, w⟩ := q
  have hk := lvp_mem.mp hq
  by_cases hki1 : k = i + 1
  · subst hki1
    have hlt : i + 1 < lv.length := by
      have := (List.getElem?_eq_some_iff.mp hk).1
      simpa using this
    rw [List.getElem?_set_self (by simpa using hlt)] at hk
    cases hk
  · rw [List.getElem?_set_ne (fun z => hki1 z.symm)] at hk
    by_cases hki : k = i
    · subst hki
      have hlt : k < lv.length := by
        have := (List.getElem?_eq_some_iff.mp hk).1
        simpa using this
      rw [List.getElem?_set_self hlt] at hk
      cases hk
      exact List.mem_cons_self
    · rw [List.getElem?_set_ne (fun z => hki z.symm)] at hk
      refine List.mem_cons_of_mem _ (List.mem_filter.mpr ⟨lvp_mem.mpr hk, ?_⟩)
      have hn : ¬ (k + 1 = i ∧ w.category = 2) := by
        rintro ⟨rfl, h2⟩
        simp [lng, hk, h2] at hg
      simp only [Bool.and_eq_true, Bool.not_eq_true', beq_eq_false_iff_ne, ne_eq, Bool.and_eq_false_iff]
      refine ⟨hki, hki1, ?_⟩
      by_cases h1 : k + 1 = i
      · exact Or.inr (fun h2 => hn ⟨h1, h2⟩)
      · exact Or.inl h1
def msk : List Bool → List (Option Value) → List (Option Value)
  | true :: bs, v :: l => v :: msk bs l
  | false :: bs, _ :: l => none :: msk bs l
  | _, _ => []
theorem msk_get : ∀ (bs : List Bool) (lv : List (Option Value)) (k : Nat) (v : Value), (msk bs lv)[k]? = some (some v) → lv[k]? = some (some v)
  | [], _, k, v, h => by simp [msk] at h
  | _ :: _, [], k, v, h => by simp [msk] at h
  | true :: bs, a :: l, 0, v, h => by simpa [msk] using h
  | false :: bs, a :: l, 0, v, h => by simp [msk] at h
  | true :: bs, a :: l, k + 1, v, h => by
    have := msk_get bs l k v (by simpa [msk] using h)
    simpa using this
  | false :: bs, a :: l, k + 1, v, h => by
    have := msk_get bs l k v (by simpa [msk] using h)
    simpa using this
/-- fewer locals told -/
theorem v_weak (bs : List Bool) (k : V X G nL M pc (msk bs lv) st) : V X G nL M pc lv st := fun H locs ls hP hS hl => k H locs ls hP hS ⟨hl.1, hl.2.1, fun q hq => hl.2.2 q (by
  obtain ⟨i, v⟩ := q
  exact lvp_mem.mpr (msk_get bs lv i v (lvp_mem.mp hq)))⟩
theorem v_iload_n (C : Cx X G cc nL own fr lo ret) {k : Fin 4} {x : Int32} (hd : decode cc pc = .ok (.iload_n k, 1)) (hl : lv[(k : Nat)]? = some (some (.int x))) (K : V X G nL M (pc + 1) lv (.int x :: st)) : V X G nL M pc lv st := fun H locs ls hP hS h => lv_iload_n C.1 C.2.1 hd rfl (lv_get h hl) (K H locs ls hP hS h)
theorem v_iload (C : Cx X G cc nL own fr lo ret) {k : Nat} {x : Int32} (hd : decode cc pc = .ok (.iload k, 2)) (hl : lv[k]? = some (some (.int x))) (K : V X G nL M (pc + 2) lv (.int x :: st)) : V X G nL M pc lv st := fun H locs ls hP hS h => lv_iload C.1 C.2.1 hd (lv_get h hl) (K H locs ls hP hS h)
theorem v_lload_n (C : Cx X G cc nL own fr lo ret) {k : Fin 4} {x : Int64} (hd : decode cc pc = .ok (.lload_n k, 1)) (hl : lv[(k : Nat)]? = some (some (.long x))) (K : V X G nL M (pc + 1) lv (.long x :: st)) : V X G nL M pc lv st := fun H locs ls hP hS h => lv_lload_n C.1 C.2.1 hd rfl (lv_get h hl) (K H locs ls hP hS h)
theorem v_lload (C : Cx X G cc nL own fr lo ret) {k : Nat} {x : Int64} (hd : decode cc pc = .ok (.lload k, 2)) (hl : lv[k]? = some (some (.long x))) (K : V X G nL M (pc + 2) lv (.long x :: st)) : V X G nL M pc lv st := fun H locs ls hP hS h => lv_lload C.1 C.2.1 hd (lv_get h hl) (K H locs ls hP hS h)
theorem v_aload_n (C : Cx X G cc nL own fr lo ret) {k : Fin 4} {x : Nat} (hd : decode cc pc = .ok (.aload_n k, 1)) (hl : lv[(k : Nat)]? = some (some (.ref x))) (K : V X G nL M (pc + 1) lv (.ref x :: st)) : V X G nL M pc lv st := fun H locs ls hP hS h => lv_aload_n C.1 C.2.1 hd rfl (lv_get h hl) (K H locs ls hP hS h)
theorem v_aload (C : Cx X G cc nL own fr lo ret) {k : Nat} {x : Nat} (hd : decode cc pc = .ok (.aload k, 2)) (hl : lv[k]? = some (some (.ref x))) (K : V X G nL M (pc + 2) lv (.ref x :: st)) : V X G nL M pc lv st := fun H locs ls hP hS h => lv_aload C.1 C.2.1 hd (lv_get h hl) (K H locs ls hP hS h)
theorem v_istore_n (C : Cx X G cc nL own fr lo ret) {k : Fin 4} {x : Int32} (hd : decode cc pc = .ok (.istore_n k, 1)) (hn : (k : Nat) < nL) (hg : lng lv k = false) (K : V X G nL M (pc + 1) (lv.set k (some (.int x))) st) : V X G nL M pc lv (.int x :: st) := fun H locs ls hP hS h => lv_istore_n C.1 C.2.1 hd rfl h hn rfl (fun ls' h' => K H locs ls' hP hS (lv_put1 h' hg))
theorem v_istore (C : Cx X G cc nL own fr lo ret) {k : Nat} {x : Int32} (hd : decode cc pc = .ok (.istore k, 2)) (hn : k < nL) (hg : lng lv k = false) (K : V X G nL M (pc + 2) (lv.set k (some (.int x))) st) : V X G nL M pc lv (.int x :: st) := fun H locs ls hP hS h => lv_istore C.1 C.2.1 hd h hn rfl (fun ls' h' => K H locs ls' hP hS (lv_put1 h' hg))
theorem v_astore_n (C : Cx X G cc nL own fr lo ret) {k : Fin 4} {x : Nat} (hd : decode cc pc = .ok (.astore_n k, 1)) (hn : (k : Nat) < nL) (hg : lng lv k = false) (K : V X G nL M (pc + 1) (lv.set k (some (.ref x))) st) : V X G nL M pc lv (.ref x :: st) := fun H locs ls hP hS h => lv_astore_n C.1 C.2.1 hd rfl h hn rfl (fun ls' h' => K H locs ls' hP hS (lv_put1 h' hg))
theorem v_astore (C : Cx X G cc nL own fr lo ret) {k : Nat} {x : Nat} (hd : decode cc pc = .ok (.astore k, 2)) (hn : k < nL) (hg : lng lv k = false) (K : V X G nL M (pc + 2) (lv.set k (some (.ref x))) st) : V X G nL M pc lv (.ref x :: st) := fun H locs ls hP hS h => lv_astore C.1 C.2.1 hd h hn rfl (fun ls' h' => K H locs ls' hP hS (lv_put1 h' hg))
theorem v_lstore (C : Cx X G cc nL own fr lo ret) {k : Nat} {x : Int64} (hd : decode cc pc = .ok (.lstore k, 2)) (hn : k + 1 < nL) (hg : lng lv k = false) (K : V X G nL M (pc + 2) ((lv.set k (some (.long x))).set (k + 1) none) st) : V X G nL M pc lv (.long x :: st) := fun H locs ls hP hS h => lv_lstore C.1 C.2.1 hd h hn rfl (fun ls' h' => K H locs ls' hP hS (lv_put2 h' hg))
theorem v_iinc (C : Cx X G cc nL own fr lo ret) {k : Nat} {n : Int} {x v : Int32} (hd : decode cc pc = .ok (.iinc k n, 3)) (hl : lv[k]? = some (some (.int x))) (hv : Int32.ofInt n = v) (hn : k < nL) (hg : lng lv k = false) (K : V X G nL M (pc + 3) (lv.set k (some (.int (x + v)))) st) : V X G nL M pc lv st := fun H locs ls hP hS h => by
  obtain ⟨j, hj⟩ := List.getElem?_of_mem (lvp_mem.mpr hl)
  exact lv_iinc C.1 C.2.1 hd h hj (by rw [hv]) hn rfl (fun ls' h' => K H locs ls' hP hS (lv_put1 h' hg))
theorem v_iconst (C : Cx X G cc nL own fr lo ret) {n : Int} {v : Int32} (hd : decode cc pc = .ok (.iconst n, 1)) (hv : Int32.ofInt n = v) (K : V X G nL M (pc + 1) lv (.int v :: st)) : V X G nL M pc lv st := fun H locs ls hP hS h => lv_iconst C.1 C.2.1 hd hv (K H locs ls hP hS h)
theorem v_bipush (C : Cx X G cc nL own fr lo ret) {n : Int} {v : Int32} (hd : decode cc pc = .ok (.bipush n, 2)) (hv : (Int8.ofInt n).toInt32 = v) (K : V X G nL M (pc + 2) lv (.int v :: st)) : V X G nL M pc lv st := fun H locs ls hP hS h => lv_bipush C.1 C.2.1 hd hv (K H locs ls hP hS h)
theorem v_sipush (C : Cx X G cc nL own fr lo ret) {n : Int} {v : Int32} (hd : decode cc pc = .ok (.sipush n, 3)) (hv : (Int16.ofInt n).toInt32 = v) (K : V X G nL M (pc + 3) lv (.int v :: st)) : V X G nL M pc lv st := fun H locs ls hP hS h => lv_sipush C.1 C.2.1 hd hv (K H locs ls hP hS h)
theorem v_lconst (C : Cx X G cc nL own fr lo ret) {n : Fin 2} {v : Int64} (hd : decode cc pc = .ok (.lconst n, 1)) (hv : Int64.ofNat (n : Nat) = v) (K : V X G nL M (pc + 1) lv (.long v :: st)) : V X G nL M pc lv st := fun H locs ls hP hS h => lv_lconst C.1 C.2.1 hd hv (K H locs ls hP hS h)
theorem v_ldc (C : Cx X G cc nL own fr lo ret) {k : Nat} {v : Int32} (hd : decode cc pc = .ok (.ldc k, 2)) (hw : Cond.constant own k v ∈ tb) (K : V X G nL M (pc + 2) lv (.int v :: st)) : V X G nL M pc lv st := fun H locs ls hP hS h => lv_ldc C.1 C.2.1 C.2.2.2.1 (C.2.2.2.2.1 _ hw) hd (K H locs ls hP hS h)
theorem v_ldc_w (C : Cx X G cc nL own fr lo ret) {k : Nat} {v : Int32} (hd : decode cc pc = .ok (.ldc_w k, 3)) (hw : Cond.constant own k v ∈ tb) (K : V X G nL M (pc + 3) lv (.int v :: st)) : V X G nL M pc lv st := fun H locs ls hP hS h => lv_ldcw C.1 C.2.1 C.2.2.2.1 (C.2.2.2.2.1 _ hw) hd (K H locs ls hP hS h)
theorem v_ldc2 (C : Cx X G cc nL own fr lo ret) {k : Nat} {v : Int64} (hd : decode cc pc = .ok (.ldc2_w k, 3)) (hw : Cond.constantLong own k v ∈ tb) (K : V X G nL M (pc + 3) lv (.long v :: st)) : V X G nL M pc lv st := fun H locs ls hP hS h => lv_ldc2 C.1 C.2.1 C.2.2.2.1 (C.2.2.2.2.1 _ hw) hd (K H locs ls hP hS h)
theorem v_iadd (C : Cx X G cc nL own fr lo ret) {x y : Int32} (hd : decode cc pc = .ok (.iadd, 1)) (K : V X G nL M (pc + 1) lv (.int (x + y) :: st)) : V X G nL M pc lv (.int y :: .int x :: st) := fun H locs ls hP hS h => lv_iadd C.1 C.2.1 hd (K H locs ls hP hS h)
theorem v_isub (C : Cx X G cc nL own fr lo ret) {x y : Int32} (hd : decode cc pc = .ok (.isub, 1)) (K : V X G nL M (pc + 1) lv (.int (x - y) :: st)) : V X G nL M pc lv (.int y :: .int x :: st) := fun H locs ls hP hS h => lv_isub C.1 C.2.1 hd (K H locs ls hP hS h)
theorem v_imul (C : Cx X G cc nL own fr lo ret) {x y : Int32} (hd : decode cc pc = .ok (.imul, 1)) (K : V X G nL M (pc + 1) lv (.int (x * y) :: st)) : V X G nL M pc lv (.int y :: .int x :: st) := fun H locs ls hP hS h => lv_imul C.1 C.2.1 hd (K H locs ls hP hS h)
theorem v_iand (C : Cx X G cc nL own fr lo ret) {x y : Int32} (hd : decode cc pc = .ok (.iand, 1)) (K : V X G nL M (pc + 1) lv (.int (x &&& y) :: st)) : V X G nL M pc lv (.int y :: .int x :: st) := fun H locs ls hP hS h => lv_iand C.1 C.2.1 hd (K H locs ls hP hS h)
theorem v_ishr (C : Cx X G cc nL own fr lo ret) {x y : Int32} (hd : decode cc pc = .ok (.ishr, 1)) (K : V X G nL M (pc + 1) lv (.int (x >>> (y &&& 31)) :: st)) : V X G nL M pc lv (.int y :: .int x :: st) := fun H locs ls hP hS h => lv_ishr C.1 C.2.1 hd (K H locs ls hP hS h)
def jrem (x y : Int32) : Int32 := x - x / y * y
def jushr (x y : Int32) : Int32 := (x.toUInt32 >>> (y.toUInt32 &&& Int32.toUInt32 31)).toInt32
theorem v_idiv (C : Cx X G cc nL own fr lo ret) {x y : Int32} (hd : decode cc pc = .ok (.idiv, 1)) (hy : ¬ y = 0) (K : V X G nL M (pc + 1) lv (.int (x / y) :: st)) : V X G nL M pc lv (.int y :: .int x :: st) := fun H locs ls hP hS h => lv_idiv C.1 C.2.1 hd hy (K H locs ls hP hS h)
theorem v_irem (C : Cx X G cc nL own fr lo ret) {x y : Int32} (hd : decode cc pc = .ok (.irem, 1)) (hy : ¬ y = 0) (K : V X G nL M (pc + 1) lv (.int (jrem x y) :: st)) : V X G nL M pc lv (.int y :: .int x :: st) := fun H locs ls hP hS h => lv_irem C.1 C.2.1 hd hy (K H locs ls hP hS h)
theorem v_iushr (C : Cx X G cc nL own fr lo ret) {x y : Int32} (hd : decode cc pc = .ok (.iushr, 1)) (K : V X G nL M (pc + 1) lv (.int (jushr x y) :: st)) : V X G nL M pc lv (.int y :: .int x :: st) := fun H locs ls hP hS h => lv_iushr C.1 C.2.1 hd rfl (K H locs ls hP hS h)
theorem v_ineg (C : Cx X G cc nL own fr lo ret) {x : Int32} (hd : decode cc pc = .ok (.ineg, 1)) (K : V X G nL M (pc + 1) lv (.int (-x) :: st)) : V X G nL M pc lv (.int x :: st) := fun H locs ls hP hS h => lv_ineg C.1 C.2.1 hd (K H locs ls hP hS h)
theorem v_i2l (C : Cx X G cc nL own fr lo ret) {x : Int32} (hd : decode cc pc = .ok (.i2l, 1)) (K : V X G nL M (pc + 1) lv (.long x.toInt64 :: st)) : V X G nL M pc lv (.int x :: st) := fun H locs ls hP hS h => lv_i2l C.1 C.2.1 hd rfl (K H locs ls hP hS h)
theorem v_i2b (C : Cx X G cc nL own fr lo ret) {x : Int32} (hd : decode cc pc = .ok (.i2b, 1)) (K : V X G nL M (pc + 1) lv (.int x.toInt8.toInt32 :: st)) : V X G nL M pc lv (.int x :: st) := fun H locs ls hP hS h => lv_i2b C.1 C.2.1 hd rfl (K H locs ls hP hS h)
theorem v_i2s (C : Cx X G cc nL own fr lo ret) {x : Int32} (hd : decode cc pc = .ok (.i2s, 1)) (K : V X G nL M (pc + 1) lv (.int x.toInt16.toInt32 :: st)) : V X G nL M pc lv (.int x :: st) := fun H locs ls hP hS h => lv_i2s C.1 C.2.1 hd rfl (K H locs ls hP hS h)
theorem v_ladd (C : Cx X G cc nL own fr lo ret) {x y : Int64} (hd : decode cc pc = .ok (.ladd, 1)) (K : V X G nL M (pc + 1) lv (.long (x + y) :: st)) : V X G nL M pc lv (.long y :: .long x :: st) := fun H locs ls hP hS h => lv_ladd C.1 C.2.1 hd (K H locs ls hP hS h)
theorem v_lcmp (C : Cx X G cc nL own fr lo ret) {x y : Int64} (hd : decode cc pc = .ok (.lcmp, 1)) (K : V X G nL M (pc + 1) lv (.int (lg_cmp x y) :: st)) : V X G nL M pc lv (.long y :: .long x :: st) := fun H locs ls hP hS h => W.lcmp C.1 C.2.1 hd (K H locs ls hP hS h)
theorem v_dup (C : Cx X G cc nL own fr lo ret) {v : Value} (hd : decode cc pc = .ok (.dup, 1)) (hv : v.category = 1) (K : V X G nL M (pc + 1) lv (v :: v :: st)) : V X G nL M pc lv (v :: st) := fun H locs ls hP hS h => lv_dup C.1 C.2.1 hd hv (K H locs ls hP hS h)
theorem v_dup2 (C : Cx X G cc nL own fr lo ret) {v w : Value} (hd : decode cc pc = .ok (.dup2, 1)) (hv : v.category = 1) (hw : w.category = 1) (K : V X G nL M (pc + 1) lv (v :: w :: v :: w :: st)) : V X G nL M pc lv (v :: w :: st) := fun H locs ls hP hS h => lv_dup2_11 C.1 C.2.1 hd hv hw (K H locs ls hP hS h)
theorem v_pop (C : Cx X G cc nL own fr lo ret) {v : Value} (hd : decode cc pc = .ok (.pop, 1)) (hv : v.category = 1) (K : V X G nL M (pc + 1) lv st) : V X G nL M pc lv (v :: st) := fun H locs ls hP hS h => lv_pop C.1 C.2.1 hd hv (K H locs ls hP hS h)
theorem v_goto (C : Cx X G cc nL own fr lo ret) {off : Int} {tgt : Nat} (hd : decode cc pc = .ok (.goto off, 3)) (ht : (pc : Int) + off = (tgt : Int)) (K : V X G nL M tgt lv st) : V X G nL M pc lv st := fun H locs ls hP hS h => lv_goto C.1 C.2.1 hd ht (K H locs ls hP hS h)
theorem v_icmp_eq (C : Cx X G cc nL own fr lo ret) {x y : Int32} {off : Int} {tgt : Nat} (hd : decode cc pc = .ok (.if_icmp .eq off, 3)) (ht : (pc : Int) + off = (tgt : Int)) (K : x = y → V X G nL M tgt lv st) (K2 : ¬ x = y → V X G nL M (pc + 3) lv st) : V X G nL M pc lv (.int y :: .int x :: st) := fun H locs ls hP hS h => lv_icmp_eq C.1 C.2.1 hd ht (fun q => K q H locs ls hP hS h) (fun q => K2 q H locs ls hP hS h)
theorem v_icmp_ne (C : Cx X G cc nL own fr lo ret) {x y : Int32} {off : Int} {tgt : Nat} (hd : decode cc pc = .ok (.if_icmp .ne off, 3)) (ht : (pc : Int) + off = (tgt : Int)) (K : ¬ x = y → V X G nL M tgt lv st) (K2 : x = y → V X G nL M (pc + 3) lv st) : V X G nL M pc lv (.int y :: .int x :: st) := fun H locs ls hP hS h => lv_icmp_ne C.1 C.2.1 hd ht (fun q => K q H locs ls hP hS h) (fun q => K2 q H locs ls hP hS h)
theorem v_icmp_lt (C : Cx X G cc nL own fr lo ret) {x y : Int32} {off : Int} {tgt : Nat} (hd : decode cc pc = .ok (.if_icmp .lt off, 3)) (ht : (pc : Int) + off = (tgt : Int)) (K : x < y → V X G nL M tgt lv st) (K2 : ¬ x < y → V X G nL M (pc + 3) lv st) : V X G nL M pc lv (.int y :: .int x :: st) := fun H locs ls hP hS h => lv_icmp_lt C.1 C.2.1 hd ht (fun q => K q H locs ls hP hS h) (fun q => K2 q H locs ls hP hS h)
theorem v_icmp_ge (C : Cx X G cc nL own fr lo ret) {x y : Int32} {off : Int} {tgt : Nat} (hd : decode cc pc = .ok (.if_icmp .ge off, 3)) (ht : (pc : Int) + off = (tgt : Int)) (K : y ≤ x → V X G nL M tgt lv st) (K2 : ¬ y ≤ x → V X G nL M (pc + 3) lv st) : V X G nL M pc lv (.int y :: .int x :: st) := fun H locs ls hP hS h => lv_icmp_ge C.1 C.2.1 hd ht (fun q => K q H locs ls hP hS h) (fun q => K2 q H locs ls hP hS h)
theorem v_icmp_gt (C : Cx X G cc nL own fr lo ret) {x y : Int32} {off : Int} {tgt : Nat} (hd : decode cc pc = .ok (.if_icmp .gt off, 3)) (ht : (pc : Int) + off = (tgt : Int)) (K : y < x → V X G nL M tgt lv st) (K2 : ¬ y < x → V X G nL M (pc + 3) lv st) : V X G nL M pc lv (.int y :: .int x :: st) := fun H locs ls hP hS h => lv_icmp_gt C.1 C.2.1 hd ht (fun q => K q H locs ls hP hS h) (fun q => K2 q H locs ls hP hS h)
theorem v_icmp_le (C : Cx X G cc nL own fr lo ret) {x y : Int32} {off : Int} {tgt : Nat} (hd : decode cc pc = .ok (.if_icmp .le off, 3)) (ht : (pc : Int) + off = (tgt : Int)) (K : x ≤ y → V X G nL M tgt lv st) (K2 : ¬ x ≤ y → V X G nL M (pc + 3) lv st) : V X G nL M pc lv (.int y :: .int x :: st) := fun H locs ls hP hS h => lv_icmp_le C.1 C.2.1 hd ht (fun q => K q H locs ls hP hS h) (fun q => K2 q H locs ls hP hS h)
theorem v_if_eq (C : Cx X G cc nL own fr lo ret) {x : Int32} {off : Int} {tgt : Nat} (hd : decode cc pc = .ok (.ifCond .eq off, 3)) (ht : (pc : Int) + off = (tgt : Int)) (K : x = 0 → V X G nL M tgt lv st) (K2 : ¬ x = 0 → V X G nL M (pc + 3) lv st) : V X G nL M pc lv (.int x :: st) := fun H locs ls hP hS h => lv_if_eq C.1 C.2.1 hd ht (fun q => K q H locs ls hP hS h) (fun q => K2 q H locs ls hP hS h)
theorem v_if_ne (C : Cx X G cc nL own fr lo ret) {x : Int32} {off : Int} {tgt : Nat} (hd : decode cc pc = .ok (.ifCond .ne off, 3)) (ht : (pc : Int) + off = (tgt : Int)) (K : ¬ x = 0 → V X G nL M tgt lv st) (K2 : x = 0 → V X G nL M (pc + 3) lv st) : V X G nL M pc lv (.int x :: st) := fun H locs ls hP hS h => lv_if_ne C.1 C.2.1 hd ht (fun q => K q H locs ls hP hS h) (fun q => K2 q H locs ls hP hS h)
theorem v_if_lt (C : Cx X G cc nL own fr lo ret) {x : Int32} {off : Int} {tgt : Nat} (hd : decode cc pc = .ok (.ifCond .lt off, 3)) (ht : (pc : Int) + off = (tgt : Int)) (K : x < 0 → V X G nL M tgt lv st) (K2 : ¬ x < 0 → V X G nL M (pc + 3) lv st) : V X G nL M pc lv (.int x :: st) := fun H locs ls hP hS h => lv_if_lt C.1 C.2.1 hd ht (fun q => K q H locs ls hP hS h) (fun q => K2 q H locs ls hP hS h)
theorem v_if_ge (C : Cx X G cc nL own fr lo ret) {x : Int32} {off : Int} {tgt : Nat} (hd : decode cc pc = .ok (.ifCond .ge off, 3)) (ht : (pc : Int) + off = (tgt : Int)) (K : 0 ≤ x → V X G nL M tgt lv st) (K2 : ¬ 0 ≤ x → V X G nL M (pc + 3) lv st) : V X G nL M pc lv (.int x :: st) := fun H locs ls hP hS h => lv_if_ge C.1 C.2.1 hd ht (fun q => K q H locs ls hP hS h) (fun q => K2 q H locs ls hP hS h)
theorem v_if_gt (C : Cx X G cc nL own fr lo ret) {x : Int32} {off : Int} {tgt : Nat} (hd : decode cc pc = .ok (.ifCond .gt off, 3)) (ht : (pc : Int) + off = (tgt : Int)) (K : 0 < x → V X G nL M tgt lv st) (K2 : ¬ 0 < x → V X G nL M (pc + 3) lv st) : V X G nL M pc lv (.int x :: st) := fun H locs ls hP hS h => lv_if_gt C.1 C.2.1 hd ht (fun q => K q H locs ls hP hS h) (fun q => K2 q H locs ls hP hS h)
theorem v_if_le (C : Cx X G cc nL own fr lo ret) {x : Int32} {off : Int} {tgt : Nat} (hd : decode cc pc = .ok (.ifCond .le off, 3)) (ht : (pc : Int) + off = (tgt : Int)) (K : x ≤ 0 → V X G nL M tgt lv st) (K2 : ¬ x ≤ 0 → V X G nL M (pc + 3) lv st) : V X G nL M pc lv (.int x :: st) := fun H locs ls hP hS h => lv_if_le C.1 C.2.1 hd ht (fun q => K q H locs ls hP hS h) (fun q => K2 q H locs ls hP hS h)
theorem v_tin (C : Cx X G cc nL own fr lo ret) {dflt l1 h1 : Int} {offs : Array Int} {len : Nat} {x : Int32} {off : Int} {tgt : Nat} (hd : decode cc pc = .ok (.tableswitch dflt l1 h1 offs, len)) (q1 : ¬ x.toInt < l1) (q2 : ¬ h1 < x.toInt) (ho : offs[(x.toInt - l1).toNat]? = some off) (ht : (pc : Int) + off = (tgt : Int)) (K : V X G nL M tgt lv st) : V X G nL M pc lv (.int x :: st) := fun H locs ls hP hS h => lv_tableIn C.1 C.2.1 hd q1 q2 ho ht (K H locs ls hP hS h)
theorem v_tout (C : Cx X G cc nL own fr lo ret) {dflt l1 h1 : Int} {offs : Array Int} {len : Nat} {x : Int32} {tgt : Nat} (hd : decode cc pc = .ok (.tableswitch dflt l1 h1 offs, len)) (q1 : x.toInt < l1 ∨ h1 < x.toInt) (ht : (pc : Int) + dflt = (tgt : Int)) (K : V X G nL M tgt lv st) : V X G nL M pc lv (.int x :: st) := fun H locs ls hP hS h => lv_tableOut C.1 C.2.1 hd q1 ht (K H locs ls hP hS h)
end VR
end
section
/-! ROWS of the heap: fields, arrays, returns, calls -/
theorem clk0 : ∀ w ∈ u_ws RX0 TX0 4, w ∈ tb := by decide +kernel
theorem clk1 : ∀ w ∈ u_ws RX1 TX1 4, w ∈ tb := by decide +kernel
theorem clk2 : ∀ w ∈ u_ws RX2 TX2 3, w ∈ tb := by decide +kernel
theorem clk3 : ∀ w ∈ u_ws RX3 TX3 12, w ∈ tb := by decide +kernel
theorem clk4 : ∀ w ∈ u_ws RX4 TX4 5, w ∈ tb := by decide +kernel
theorem clk5 : ∀ w ∈ u_ws RX5 TX5 10, w ∈ tb := by decide +kernel
theorem clk6 : ∀ w ∈ u_ws RX6 TX6 30, w ∈ tb := by decide +kernel
def CK (ci : Nat) (q : vw_C) (ty : Nat → FieldType) : Prop := vwCl[ci]? = some q ∧ (∀ w ∈ u_ws q.1 q.2.1 q.2.2, w ∈ tb) ∧ (∀ k, k < q.2.2 → parseFieldDescriptor (q.2.1 k).2.2.1 = some (ty k)) ∧ (∀ a, a < q.2.2 → ∀ b, b < q.2.2 → a ≠ b → (q.2.1 a).2.1 ≠ (q.2.1 b).2.1)
theorem ck0 : CK 0 (RX0, TX0, 4) tyX0 := ⟨rfl, clk0, tyX0_ok, nmX0⟩
theorem ck1 : CK 1 (RX1, TX1, 4) tyX1 := ⟨rfl, clk1, tyX1_ok, nmX1⟩
theorem ck2 : CK 2 (RX2, TX2, 3) tyX2 := ⟨rfl, clk2, tyX2_ok, nmX2⟩
theorem ck3 : CK 3 (RX3, TX3, 12) tyX3 := ⟨rfl, clk3, tyX3_ok, nmX3⟩
theorem ck4 : CK 4 (RX4, TX4, 5) tyX4 := ⟨rfl, clk4, tyX4_ok, nmX4⟩
theorem ck5 : CK 5 (RX5, TX5, 10) tyX5 := ⟨rfl, clk5, tyX5_ok, nmX5⟩
theorem ck6 : CK 6 (RX6, TX6, 30) tyX6 := ⟨rfl, clk6, tyX6_ok, nmX6⟩
/-- a field's link: class ci, field k, read in the class own by the pool's number idx -/
def FK (own : String) (idx ci k : Nat) (ty : FieldType) (fin : Bool) : Prop := ∃ (q : vw_C) (ty0 : Nat → FieldType), CK ci q ty0 ∧ k < q.2.2 ∧ (q.2.1 k).1 = q.1 ∧ ty0 k = ty ∧ (q.2.1 k).2.2.2 = fin ∧ ci < 10 ∧
  (Cond.fieldLink own idx q.1 (q.2.1 k).2.1 (q.2.1 k).2.2.1 ∈ tb ∨ ∃ host, Cond.fieldLinkNest own idx q.1 (q.2.1 k).2.1 (q.2.1 k).2.2.1 host ∈ tb)
def gi (i ci k : Nat) : Bool := decide (i < NC) && (kd i == ci && (rf i)[k]? == some none)
def gr (i ci k j : Nat) : Bool := decide (i < NC) && (kd i == ci && (rf i)[k]? == some (some j))
def ga (i t n : Nat) : Bool := decide (i < NC) && (kd i == t && ln i == n)
theorem gi_of {i ci k : Nat} (h : gi i ci k = true) : i < NC ∧ kd i = ci ∧ (rf i)[k]? = some none := by simpa [gi] using h
theorem gr_of {i ci k j : Nat} (h : gr i ci k j = true) : i < NC ∧ kd i = ci ∧ (rf i)[k]? = some (some j) := by simpa [gr] using h
theorem ga_of {i t n : Nat} (h : ga i t n = true) : i < NC ∧ kd i = t ∧ ln i = n := by simpa [ga] using h
def ib (i : Int32) (n : Nat) : Bool := !(decide (i < 0)) && decide (i.toNatClampNeg < n)
theorem ib_in {i : Int32} {n : Nat} (h : ib i n = true) : vp_in i n := by
  simp only [ib, Bool.and_eq_true, Bool.not_eq_true', decide_eq_false_iff_not, decide_eq_true_eq] at h
  exact fun q => q.elim h.1 (fun z => Nat.not_le.mpr h.2 z)
abbrev ix (i : Int32) : Nat := i.toNatClampNeg
def z01 (x : Int32) : Bool := x == 0 || x == 1
theorem z01_narrow {x : Int32} (h : z01 x = true) : narrow .boolean (.int x) = .int x := by
  simp only [z01, Bool.or_eq_true, beq_iff_eq] at h
  rcases h with rfl | rfl <;> rfl
theorem z01_fits {x : Int32} (h : z01 x = true) : fits .boolean (.int x) = true := h
theorem ce_ob {G : GG} {M : Mem} {i ci : Nat} (h : kd i = ci) (hc : ci < 10) : ce G M i = .inr (ci, fl G M i) := by
  subst h
  simp only [ce, if_pos hc]
theorem ce_ar {G : GG} {M : Mem} {i : Nat} (h : 10 ≤ kd i) (h2 : kd i < 13) : ce G M i = .inl (G.2.2 i, ln i, .inl (M i)) := by
  simp only [ce, if_neg (Nat.not_lt.mpr h), if_pos h2]
theorem ce_rf {G : GG} {M : Mem} {i : Nat} (h : 13 ≤ kd i) : ce G M i = .inl (G.2.2 i, ln i, .inr (.inr (.inr (.inr (fun k => ((rf i).getD k none).map G.2.1))))) := by
  simp only [ce, if_neg (show ¬ kd i < 10 by omega), if_neg (Nat.not_lt.mpr h)]
theorem fl_at {G : GG} {M : Mem} {i k : Nat} {r : Option Nat} (h : (rf i)[k]? = some r) : (fl G M i)[k]? = some (fv G M i k r) := by simp [fl, List.getElem?_mapIdx, h]
theorem fl_set {G : GG} {M : Mem} {i k : Nat} {v : Int32} (h : (rf i)[k]? = some none) : (fl G M i).set k (.int v) = fl G (wr M i k v) i := by
  apply List.ext_getElem?
  intro j
  by_cases hj : j = k
  · subst hj
    have hlt : j < (rf i).length := (List.getElem?_eq_some_iff.mp h).1
    rw [List.getElem?_set_self (by simpa [fl] using hlt), fl_at h]
    simp [fv, wr]
  · rw [List.getElem?_set_ne (fun q => hj q.symm)]
    simp only [fl, List.getElem?_mapIdx]
    cases (rf i)[j]? with
    | none => rfl
    | some r => cases r <;> simp [fv, wr, hj]
section VH
variable {X : XX} {G : GG} {M M' : Mem} {cc : ByteArray} {nL pc fr lo : Nat} {own : String} {ret : Option FieldType} {lv : List (Option Value)} {st : List Value}
theorem v_geti (C : Cx X G cc nL own fr lo ret) {idx i ci k : Nat} {ty : FieldType} {fin : Bool} (hf : FK own idx ci k ty fin) (hi : gi i ci k = true) (hd : decode cc pc = .ok (.getfield idx, 3)) (K : V X G nL M (pc + 3) lv (.int (M i k) :: st)) : V X G nL M pc lv (.ref (G.2.1 i) :: st) := fun H locs ls hP hS h => by
  obtain ⟨h1, h2, h3⟩ := gi_of hi
  obtain ⟨⟨cn, ct, cN⟩, ty0, ⟨c1, c2, -, -⟩, c5, c6, -, -, c8, c9⟩ := hf
  dsimp only at c1 c2 c5 c6 c9
  obtain ⟨e1, e2, e3, e4, e5, e6, -⟩ := C
  rcases c9 with c9 | ⟨host, c9⟩
  · exact va_get (D := G.1) (cl := vwCl) (tys := []) (ci := ci) e1 e2 e5 c2 e4 e6.ob hP i (by rw [wo_at h1, ce_ob h2 c8]) c1 k c5 (e5 _ c9) (fun _ z => by rw [← c6]; exact z) (v := .int (M i k)) (by rw [fl_at h3]; rfl) hd (K H locs ls hP hS h)
  · exact va_getN (D := G.1) (cl := vwCl) (tys := []) (ci := ci) e1 e2 e5 c2 e4 e6.ob hP i (by rw [wo_at h1, ce_ob h2 c8]) c1 k c5 (e5 _ c9) (fun _ z => by rw [← c6]; exact z) (v := .int (M i k)) (by rw [fl_at h3]; rfl) hd (K H locs ls hP hS h)
theorem v_getr (C : Cx X G cc nL own fr lo ret) {idx i ci k j : Nat} {ty : FieldType} {fin : Bool} (hf : FK own idx ci k ty fin) (hi : gr i ci k j = true) (hd : decode cc pc = .ok (.getfield idx, 3)) (K : V X G nL M (pc + 3) lv (.ref (G.2.1 j) :: st)) : V X G nL M pc lv (.ref (G.2.1 i) :: st) := fun H locs ls hP hS h => by
  obtain ⟨h1, h2, h3⟩ := gr_of hi
  obtain ⟨⟨cn, ct, cN⟩, ty0, ⟨c1, c2, -, -⟩, c5, c6, -, -, c8, c9⟩ := hf
  dsimp only at c1 c2 c5 c6 c9
  obtain ⟨e1, e2, e3, e4, e5, e6, -⟩ := C
  rcases c9 with c9 | ⟨host, c9⟩
  · exact va_get (D := G.1) (cl := vwCl) (tys := []) (ci := ci) e1 e2 e5 c2 e4 e6.ob hP i (by rw [wo_at h1, ce_ob h2 c8]) c1 k c5 (e5 _ c9) (fun _ z => by rw [← c6]; exact z) (v := .ref (G.2.1 j)) (by rw [fl_at h3]; rfl) hd (K H locs ls hP hS h)
  · exact va_getN (D := G.1) (cl := vwCl) (tys := []) (ci := ci) e1 e2 e5 c2 e4 e6.ob hP i (by rw [wo_at h1, ce_ob h2 c8]) c1 k c5 (e5 _ c9) (fun _ z => by rw [← c6]; exact z) (v := .ref (G.2.1 j)) (by rw [fl_at h3]; rfl) hd (K H locs ls hP hS h)
theorem v_putg (C : Cx X G cc nL own fr lo ret) {idx i ci k : Nat} {ty : FieldType} {x : Int32} (hf : FK own idx ci k ty false) (hi : gi i ci k = true) (hn : narrow ty (.int x) = .int x) (hfit : fits ty (.int x) = true) (hd : decode cc pc = .ok (.putfield idx, 3)) (K : V X G nL (wr M i k x) (pc + 3) lv st) : V X G nL M pc lv (.int x :: .ref (G.2.1 i) :: st) := fun H locs ls hP hS h => by
  obtain ⟨h1, h2, h3⟩ := gi_of hi
  obtain ⟨⟨cn, ct, cN⟩, ty0, ⟨c1, c2, c3, c4⟩, c5, c6, c7, c7b, c8, c9⟩ := hf
  dsimp only at c1 c2 c3 c4 c5 c6 c7 c7b c9
  obtain ⟨e1, e2, e3, e4, e5, e6, e7, -⟩ := C
  have hlen : k < (fl G M i).length := by
    have := (List.getElem?_eq_some_iff.mp h3).1
    simpa [fl] using this
  have hset : (wo G M).set i (G.2.1 i, .inr (ci, (fl G M i).set k (.int x))) = wo G (wr M i k x) := by
    rw [fl_set h3, ← ce_ob h2 c8]
    exact wo_set h1 (fun j hj => wr_ne hj)
  have hfin : ∀ (H1 : Heap) (locs1 : List Loc), va_P G.1 vwCl ((wo G M).set i (G.2.1 i, .inr (ci, (fl G M i).set k (.int x)))) H1 → va_D (AG G) ((wo G M).set i (G.2.1 i, .inr (ci, (fl G M i).set k (.int x)))) → va_S (AG G) (xs X).heap H1 locs1 → WX X H1 locs1 (F0 (xm X) (pc + 3) ls st) := fun H1 locs1 hP1 _ hS1 => K H1 locs1 ls (by rw [← hset]; exact hP1) hS1 h
  rcases c9 with c9 | ⟨host, c9⟩
  · exact va_put (D := G.1) (cl := vwCl) (tys := []) (ci := ci) (v := .int x) (ty := ty) e1 e2 e5 c2 ty0 c3 c4 e4 e6.ob hP (wo_D e7) hS i (by rw [wo_at h1, ce_ob h2 c8]) c1 k c5 (e5 _ c9) (fun _ z => by rw [← c6]; exact z) c7b (by rw [← c7]; exact c3 k c5) hn hfit hlen hd hfin
  · exact va_putN (D := G.1) (cl := vwCl) (tys := []) (ci := ci) (v := .int x) (ty := ty) e1 e2 e5 c2 ty0 c3 c4 e4 e6.ob hP (wo_D e7) hS i (by rw [wo_at h1, ce_ob h2 c8]) c1 k c5 (e5 _ c9) (fun _ z => by rw [← c6]; exact z) c7b (by rw [← c7]; exact c3 k c5) hn hfit hlen hd hfin
theorem v_puti (C : Cx X G cc nL own fr lo ret) {idx i ci k : Nat} {x : Int32} (hf : FK own idx ci k .int false) (hi : gi i ci k = true) (hd : decode cc pc = .ok (.putfield idx, 3)) (K : V X G nL (wr M i k x) (pc + 3) lv st) : V X G nL M pc lv (.int x :: .ref (G.2.1 i) :: st) := v_putg C hf hi rfl rfl hd K
theorem v_putz (C : Cx X G cc nL own fr lo ret) {idx i ci k : Nat} {x : Int32} (hf : FK own idx ci k .boolean false) (hi : gi i ci k = true) (hz : z01 x = true) (hd : decode cc pc = .ok (.putfield idx, 3)) (K : V X G nL (wr M i k x) (pc + 3) lv st) : V X G nL M pc lv (.int x :: .ref (G.2.1 i) :: st) := v_putg C hf hi (z01_narrow hz) (z01_fits hz) hd K
theorem ty10 {i : Nat} (h : kd i = 10) : tyA i = .int := by simp [tyA, h]
theorem ty11 {i : Nat} (h : kd i = 11) : tyA i = .byte := by simp [tyA, h]
theorem ty12 {i : Nat} (h : kd i = 12) : tyA i = .boolean := by simp [tyA, h]
theorem ty13 {i : Nat} (h : kd i = 13) : tyA i = .object RX1 := by simp [tyA, h]
theorem ty14 {i : Nat} (h : kd i = 14) : tyA i = .object RX2 := by simp [tyA, h]
theorem v_iald (C : Cx X G cc nL own fr lo ret) {i n : Nat} {j : Int32} (ha : ga i 10 n = true) (hj : ib j n = true) (hd : decode cc pc = .ok (.iaload, 1)) (K : V X G nL M (pc + 1) lv (.int (M i (ix j)) :: st)) : V X G nL M pc lv (.int j :: .ref (G.2.1 i) :: st) := fun H locs ls hP hS h => by
  obtain ⟨h1, h2, h3⟩ := ga_of ha
  obtain ⟨e1, e2, e3, e4, e5, e6, -⟩ := C
  exact va_iald (D := G.1) (cl := vwCl) e1 e2 (e6.ar h1 (by omega) (ty10 h2)) hP i 0 (n := n) (f := M i) (by rw [wo_at h1, ce_ar (by omega) (by omega), h3]) rfl (ib_in hj) hd (K H locs ls hP hS h)
theorem v_bald (C : Cx X G cc nL own fr lo ret) {i n : Nat} {j : Int32} (ha : ga i 11 n = true) (hj : ib j n = true) (hd : decode cc pc = .ok (.baload, 1)) (K : V X G nL M (pc + 1) lv (.int (M i (ix j)) :: st)) : V X G nL M pc lv (.int j :: .ref (G.2.1 i) :: st) := fun H locs ls hP hS h => by
  obtain ⟨h1, h2, h3⟩ := ga_of ha
  obtain ⟨e1, e2, e3, e4, e5, e6, -⟩ := C
  exact va_bald (D := G.1) (cl := vwCl) e1 e2 (e6.ar h1 (by omega) (ty11 h2)) hP i 0 (n := n) (f := M i) (by rw [wo_at h1, ce_ar (by omega) (by omega), h3]) rfl (ib_in hj) hd (K H locs ls hP hS h)
theorem v_zald (C : Cx X G cc nL own fr lo ret) {i n : Nat} {j : Int32} (ha : ga i 12 n = true) (hj : ib j n = true) (hd : decode cc pc = .ok (.baload, 1)) (K : V X G nL M (pc + 1) lv (.int (M i (ix j)) :: st)) : V X G nL M pc lv (.int j :: .ref (G.2.1 i) :: st) := fun H locs ls hP hS h => by
  obtain ⟨h1, h2, h3⟩ := ga_of ha
  obtain ⟨e1, e2, e3, e4, e5, e6, -⟩ := C
  exact va_zald (D := G.1) (cl := vwCl) e1 e2 (e6.ar h1 (by omega) (ty12 h2)) hP i 0 (n := n) (f := M i) (by rw [wo_at h1, ce_ar (by omega) (by omega), h3]) rfl (ib_in hj) hd (K H locs ls hP hS h)
theorem wo_arr {i n k : Nat} {x : Int32} (h1 : i < NC) (h2 : 10 ≤ kd i) (h2b : kd i < 13) (h3 : ln i = n) : (wo G M).set i (G.2.1 i, .inl (G.2.2 i, n, .inl (upd (M i) k x))) = wo G (wr M i k x) := by
  rw [← h3, ← wr_upd, ← ce_ar (M := wr M i k x) h2 h2b]
  exact wo_set h1 (fun j hj => wr_ne hj)
theorem v_iast (C : Cx X G cc nL own fr lo ret) {i n : Nat} {j x : Int32} (ha : ga i 10 n = true) (hj : ib j n = true) (hd : decode cc pc = .ok (.iastore, 1)) (K : V X G nL (wr M i (ix j) x) (pc + 1) lv st) : V X G nL M pc lv (.int x :: .int j :: .ref (G.2.1 i) :: st) := fun H locs ls hP hS h => by
  obtain ⟨h1, h2, h3⟩ := ga_of ha
  obtain ⟨e1, e2, e3, e4, e5, e6, e7, -⟩ := C
  exact va_iast (D := G.1) (cl := vwCl) e1 e2 (e6.ar h1 (by omega) (ty10 h2)) hP (wo_D e7) hS i 0 (n := n) (f := M i) (by rw [wo_at h1, ce_ar (by omega) (by omega), h3]) rfl (ib_in hj) hd (fun H1 locs1 hP1 _ hS1 => K H1 locs1 ls (by rw [← wo_arr h1 (by omega) (by omega) h3]; exact hP1) hS1 h)
theorem v_bast (C : Cx X G cc nL own fr lo ret) {i n : Nat} {j x : Int32} (ha : ga i 11 n = true) (hj : ib j n = true) (hd : decode cc pc = .ok (.bastore, 1)) (K : V X G nL (wr M i (ix j) x.toInt8.toInt32) (pc + 1) lv st) : V X G nL M pc lv (.int x :: .int j :: .ref (G.2.1 i) :: st) := fun H locs ls hP hS h => by
  obtain ⟨h1, h2, h3⟩ := ga_of ha
  obtain ⟨e1, e2, e3, e4, e5, e6, e7, -⟩ := C
  exact va_bast (D := G.1) (cl := vwCl) e1 e2 (e6.ar h1 (by omega) (ty11 h2)) hP (wo_D e7) hS i 0 (n := n) (f := M i) (by rw [wo_at h1, ce_ar (by omega) (by omega), h3]) rfl (ib_in hj) hd (fun H1 locs1 hP1 _ hS1 => K H1 locs1 ls (by rw [← vp_nar_byte, ← wo_arr h1 (by omega) (by omega) h3]; exact hP1) hS1 h)
theorem v_zast (C : Cx X G cc nL own fr lo ret) {i n : Nat} {j x : Int32} (ha : ga i 12 n = true) (hj : ib j n = true) (hz : z01 x = true) (hd : decode cc pc = .ok (.bastore, 1)) (K : V X G nL (wr M i (ix j) x) (pc + 1) lv st) : V X G nL M pc lv (.int x :: .int j :: .ref (G.2.1 i) :: st) := fun H locs ls hP hS h => by
  obtain ⟨h1, h2, h3⟩ := ga_of ha
  obtain ⟨e1, e2, e3, e4, e5, e6, e7, -⟩ := C
  have hx : vp_nar .boolean x = x := by simp only [vp_nar, z01_narrow hz]
  exact va_zast (D := G.1) (cl := vwCl) e1 e2 (e6.ar h1 (by omega) (ty12 h2)) hP (wo_D e7) hS i 0 (n := n) (f := M i) (by rw [wo_at h1, ce_ar (by omega) (by omega), h3]) rfl (ib_in hj) hd (fun H1 locs1 hP1 _ hS1 => K H1 locs1 ls (by rw [hx, wo_arr h1 (by omega) (by omega) h3] at hP1; exact hP1) hS1 h)
theorem v_alen (C : Cx X G cc nL own fr lo ret) {i n : Nat} (ha : ga i 10 n = true) (hd : decode cc pc = .ok (.arraylength, 1)) (K : V X G nL M (pc + 1) lv (.int (nI n) :: st)) : V X G nL M pc lv (.ref (G.2.1 i) :: st) := fun H locs ls hP hS h => by
  obtain ⟨h1, h2, h3⟩ := ga_of ha
  obtain ⟨e1, e2, e3, e4, e5, e6, -⟩ := C
  exact va_alen (D := G.1) (cl := vwCl) e1 e2 (e6.ar h1 (by omega) (ty10 h2)) hP i 0 (x := (n, .inl (M i))) (ty := .int) (by rw [wo_at h1, ce_ar (by omega) (by omega), h3]) rfl rfl hd (K H locs ls hP hS h)
/-- an array of references: t 13 of Pairs, 14 of Sheets -/
theorem v_aald (C : Cx X G cc nL own fr lo ret) {i n t r : Nat} {j : Int32} (ha : ga i t n = true) (ht : t = 13 ∨ t = 14) (hj : ib j n = true) (hr : (rf i)[ix j]? = some (some r)) (hd : decode cc pc = .ok (.aaload, 1)) (K : V X G nL M (pc + 1) lv (.ref (G.2.1 r) :: st)) : V X G nL M pc lv (.int j :: .ref (G.2.1 i) :: st) := fun H locs ls hP hS h => by
  obtain ⟨h1, h2, h3⟩ := ga_of ha
  obtain ⟨e1, e2, e3, e4, e5, e6, -⟩ := C
  have hv : va_rf (((rf i).getD (ix j) none).map G.2.1) = .ref (G.2.1 r) := by rw [List.getD_eq_getElem?_getD, hr]; rfl
  have hk := K H locs ls hP hS h
  rw [← hv] at hk
  rcases ht with rfl | rfl
  · exact va_aldq (D := G.1) (cl := vwCl) e1 e2 (e6.ar h1 (by omega) (ty13 h2)) hP i 0 (n := n) (f := fun k => ((rf i).getD k none).map G.2.1) (by rw [wo_at h1, ce_rf (by omega), h3]) rfl (ib_in hj) hd hk
  · exact va_aldq (D := G.1) (cl := vwCl) e1 e2 (e6.ar h1 (by omega) (ty14 h2)) hP i 0 (n := n) (f := fun k => ((rf i).getD k none).map G.2.1) (by rw [wo_at h1, ce_rf (by omega), h3]) rfl (ib_in hj) hd hk
/-! returns -/
theorem ps_of {H : Heap} {locs : List Loc} {ov : Option Value} (hP : va_P G.1 vwCl (wo G M) H) (hS : va_S (AG G) (xs X).heap H locs) : ∀ t : State, t.heap = H → (xs X).WarmedH t.vm → Ps G ov M (xa X) (xs X) (.returned ov) t := fun t ht _ => ⟨rfl, by rw [ht]; exact hP, hS.F ht⟩
theorem v_iret (C : Cx X G cc nL own fr lo (some .int)) {x : Int32} (hQ : Rt X G (some (.int x)) M) (hd : decode cc pc = .ok (.ireturn, 1)) : V X G nL M pc lv [.int x] := fun H locs ls hP hS h => by
  obtain ⟨e1, e2, -, -, -, -, -, -, -, e10, e11, -⟩ := C
  show W _ _ _ _ _ _ _ _ _ _ _ _ _ _ (xQ X) _
  rw [show xQ X = _ from hQ]
  exact W.iret e1 e2 e10 (ps_of hP hS) hS.2.2 hd e11
theorem v_zret (C : Cx X G cc nL own fr lo (some .boolean)) {x : Int32} (hQ : Rt X G (some (.int x)) M) (hz : z01 x = true) (hd : decode cc pc = .ok (.ireturn, 1)) : V X G nL M pc lv [.int x] := fun H locs ls hP hS h => by
  obtain ⟨e1, e2, -, -, -, -, -, -, -, e10, e11, -⟩ := C
  show W _ _ _ _ _ _ _ _ _ _ _ _ _ _ (xQ X) _
  rw [show xQ X = _ from hQ]
  exact W.zret e1 e2 e10 (z01_narrow hz) (ps_of hP hS) hS.2.2 hd e11
theorem v_vret (C : Cx X G cc nL own fr lo none) (hQ : Rt X G none M) (hd : decode cc pc = .ok (.return_, 1)) : V X G nL M pc lv [] := fun H locs ls hP hS h => by
  obtain ⟨e1, e2, -, -, -, -, -, -, -, e10, e11, -⟩ := C
  show W _ _ _ _ _ _ _ _ _ _ _ _ _ _ (xQ X) _
  rw [show xQ X = _ from hQ]
  exact W.vret e1 e2 e10 (ps_of hP hS) hS.2.2 hd e11
theorem v_aret {cn : String} (C : Cx X G cc nL own fr lo (some (.object cn))) {r : Nat} (hQ : Rt X G (some (.ref (G.2.1 r))) M) (hd : decode cc pc = .ok (.areturn, 1)) : V X G nL M pc lv [.ref (G.2.1 r)] := fun H locs ls hP hS h => by
  obtain ⟨e1, e2, -, -, -, -, -, -, -, e10, e11, -⟩ := C
  show W _ _ _ _ _ _ _ _ _ _ _ _ _ _ (xQ X) _
  rw [show xQ X = _ from hQ]
  exact W.aret e1 e2 e10 (Or.inl ⟨_, rfl⟩) (Or.inr ⟨_, rfl⟩) (ps_of hP hS) hS.2.2 hd e11
end VH
end
section
/-! ROWS of the calls -/
theorem gw_in {w : Cond} (h : w ∈ gw) : w ∈ tb ∧ goodWord w = true := List.mem_filter.mp h
/-- a call's words: MK by an ordinary link, MN by a nest mate's -/
def MB (y : MethodName) (cy : ByteArray) (mL : Nat) (rt : Option FieldType) (n : Nat) : Prop := Cond.code y cy mL rt ∈ tb ∧ Cond.initialized y.cls ∈ tb ∧ (y.cls ≠ "java/lang/invoke/MethodHandle" ∧ y.cls ≠ "java/lang/invoke/VarHandle" ∧ (parseMethodDescriptor y.desc).map (fun d => d.parameters.length) = some n)
def MV (y : MethodName) (ci : Nat) : Prop := Cond.instanceMethod y ∈ tb ∧ Cond.selects y.cls y y ∈ tb ∧ ci < 10 ∧ ∃ q : vw_C, vwCl[ci]? = some q ∧ q.1 = y.cls
def MS (y : MethodName) : Prop := Cond.static y ∈ tb
def ML (own : String) (idx : Nat) (y : MethodName) : Prop := Cond.methodLink own idx y ∈ tb ∨ ∃ host, Cond.methodLinkNest own idx y host ∈ tb
theorem sp_good {y : MethodName} {cy : ByteArray} {mL n : Nat} {rt : Option FieldType} (h : MB y cy mL rt n) : GoodIn tb (Cond.code y cy mL rt :: gw) := fun w hw => (List.mem_cons.mp hw).elim (fun e => by rw [e]; exact ⟨h.1, good_of_word rfl⟩) (fun q => ⟨(gw_in q).1, good_of_word (gw_in q).2⟩)
section VC
variable {X : XX} {G : GG} {M M' : Mem} {cc : ByteArray} {nL pc fr lo : Nat} {own : String} {ret : Option FieldType} {lv : List (Option Value)} {rest : List Value}
theorem v_run {y : MethodName} {H : Heap} {locs : List Loc} {ls : Array Slot} {av st : List Value} {ov : Option Value} (hr : va_Run (xp X) (xl X) (xe X) (xR X) (xs X) (xm X) (xa X) (xb X) (xh X) (xc X) H locs (xk X) (xn X) 0 0 (F0 (xm X) pc ls st) rest (Ps G ov M' av.toArray) (AG G)) (hS : va_S (AG G) (xs X).heap H locs) (h : lv_has ls nL (lvp lv)) (K : V X G nL M' (pc + 3) lv (ov.toList ++ rest)) : WX X H locs (F0 (xm X) pc ls st) := by
  intro T hT Y
  obtain ⟨v, st₀, t, T', L, h0, Y', hL, e1, e2, ⟨hv, hp, hz, hk⟩, go⟩ := hr T hT Y
  cases hv
  rw [h0] at hz hk
  obtain ⟨t2, a1, b1⟩ := K T'.heap (locs ++ L) ls (by rw [e1]; exact hp) ⟨Nat.le_trans hS.1 (by rw [e1]; exact hz), fun q h1 h2 => by rw [e1, hk q (Nat.lt_of_lt_of_le h1 hS.1) h2]; exact hS.2.1 q h1 h2, fun q hq => by
      rcases List.mem_append.mp hq with h | h
      · exact hS.2.2 q h
      · exact hL q h⟩ h T' rfl Y'
  exact ⟨t2, go t2 a1, b1⟩
theorem v_callV (C : Cx X G cc nL own fr lo ret) {idx i ci n mL fz lz : Nat} {y : MethodName} {cy : ByteArray} {rt : Option FieldType} {as : List Value} {ov : Option Value} {st : List Value} (hSp : Sp (xl X) G y cy mL rt fz lz (.ref (G.2.1 i) :: as) M ov M') (hL : ML own idx y) (hB : MB y cy mL rt n) (hV : MV y ci) (hi : (decide (i < NC) && kd i == ci) = true) (hn : as.length = n) (hst : st = as.reverse ++ .ref (G.2.1 i) :: rest) (hw : (rest.map fun v => v.category).sum ≤ 8) (hf : fz + 1 ≤ fr) (hlo : 8 + (mL + 11) + lz ≤ lo) (hd : decode cc pc = .ok (.invokevirtual idx, 3)) (K : V X G nL M' (pc + 3) lv (ov.toList ++ rest)) : V X G nL M pc lv st := fun H locs ls hP hS h => by
  obtain ⟨e1, e2, e3, e4, e5, e6, e7, e8, e9, e10, e11, e12, e13⟩ := C
  obtain ⟨b1, b2, b3⟩ := id hB
  obtain ⟨v1, v2, v3, q, v4, v5⟩ := hV
  have hi2 : i < NC ∧ kd i = ci := by simpa using hi
  have hrecv := va_recv (s := xs X) e6.ob hP (ci := ci) (q0 := i) v4 (by rw [wo_at hi2.1, ce_ob hi2.2 v3])
  rw [v5] at hrecv
  have hpre : PreV (xs X) H y.cls (G.2.1 i) (Pr G (.ref (G.2.1 i) :: as) M) as := ⟨Pr.blind, hrecv, fun U hU hW => ⟨rfl, e6.moved hW, by rw [hU]; exact hP⟩⟩
  have hroom : (rmo fz lz).frames + 1 ≤ (xR X).frames ∧ 8 + (mL + 11) + (rmo fz lz).locals ≤ (xR X).locals := ⟨Nat.le_trans hf e8, Nat.le_trans hlo e9⟩
  rcases hL with hl | ⟨host, hl⟩
  · exact v_run (av := .ref (G.2.1 i) :: as) (y := y) (va_runV (Ts := tb) ⟨e1, e2, e3, e4, e5⟩ hSp ⟨callB_of n e5 (sp_good hB) rfl rfl rfl (e5 _ b2) (e5 _ hl) b3 hroom, e5 _ v1, e5 _ v2⟩ hpre rfl hn h.1 hst (lv_room hw) hd ⟨e12, e13⟩) hS h K
  · exact v_run (av := .ref (G.2.1 i) :: as) (y := y) (va_runVN (Ts := tb) ⟨e1, e2, e3, e4, e5⟩ hSp ⟨va_cnB n e5 (sp_good hB) rfl rfl rfl (va_Nw.of rfl (e5 _ hl)) (e5 _ b2) b3 hroom, e5 _ v1, e5 _ v2⟩ hpre rfl hn h.1 hst (lv_room hw) hd ⟨e12, e13⟩) hS h K
theorem v_callS (C : Cx X G cc nL own fr lo ret) {idx n mL fz lz : Nat} {y : MethodName} {cy : ByteArray} {rt : Option FieldType} {as : List Value} {ov : Option Value} {st : List Value} (hSp : Sp (xl X) G y cy mL rt fz lz as M ov M') (hL : ML own idx y) (hB : MB y cy mL rt n) (hV : MS y) (hn : as.length = n) (hst : st = as.reverse ++ rest) (hw : (rest.map fun v => v.category).sum ≤ 8) (hf : fz + 1 ≤ fr) (hlo : 8 + (mL + 11) + lz ≤ lo) (hd : decode cc pc = .ok (.invokestatic idx, 3)) (K : V X G nL M' (pc + 3) lv (ov.toList ++ rest)) : V X G nL M pc lv st := fun H locs ls hP hS h => by
  obtain ⟨e1, e2, e3, e4, e5, e6, e7, e8, e9, e10, e11, e12, e13⟩ := C
  obtain ⟨b1, b2, b3⟩ := id hB
  have hpre : PreS (xs X) H (Pr G as M) as := ⟨Pr.blind, fun U hU hW => ⟨rfl, e6.moved hW, by rw [hU]; exact hP⟩⟩
  have hroom : (rmo fz lz).frames + 1 ≤ (xR X).frames ∧ 8 + (mL + 11) + (rmo fz lz).locals ≤ (xR X).locals := ⟨Nat.le_trans hf e8, Nat.le_trans hlo e9⟩
  rcases hL with hl | ⟨host, hl⟩
  · exact v_run (av := as) (y := y) (va_runS (Ts := tb) ⟨e1, e2, e3, e4, e5⟩ hSp ⟨callB_of n e5 (sp_good hB) rfl rfl rfl (e5 _ b2) (e5 _ hl) b3 hroom, e5 _ hV⟩ hpre rfl hn h.1 hst (lv_room hw) hd ⟨e12, e13⟩) hS h K
  · exact v_run (av := as) (y := y) (va_runSN (Ts := tb) ⟨e1, e2, e3, e4, e5⟩ hSp ⟨va_cnB n e5 (sp_good hB) rfl rfl rfl (va_Nw.of rfl (e5 _ hl)) (e5 _ b2) b3 hroom, e5 _ hV, trivial⟩ hpre rfl hn h.1 hst (lv_room hw) hd ⟨e12, e13⟩) hS h K
theorem v_mmin (C : Cx X G cc nL own fr lo ret) {idx : Nat} {x y : Int32} (hl : Cond.methodLink own idx Lib.Math.min.name ∈ tb) (h1 : Cond.static Lib.Math.min.name ∈ tb ∧ Cond.initialized "java/lang/Math" ∈ tb ∧ Cond.code Lib.Math.min.name Lib.Math.min.code 2 (some .int) ∈ tb) (hf : 1 ≤ fr) (hlo : (rest.map fun v => v.category).sum + 13 ≤ lo) (hd : decode cc pc = .ok (.invokestatic idx, 3)) (K : V X G nL M (pc + 3) lv (.int (if x > y then y else x) :: rest)) : V X G nL M pc lv (.int y :: .int x :: rest) := fun H locs ls hP hS h => by
  obtain ⟨e1, e2, e3, e4, e5, e6, e7, e8, e9, e10, e11, e12, e13⟩ := C
  exact va_mmin e1 e2 (e3.trans h.1.symm) e4 (e5 _ hl) (e5 _ h1.1) (e5 _ h1.2.1) (e5 _ h1.2.2) (Nat.le_trans hf e8) (Nat.le_trans hlo e9) e12 e13 hd (K H locs ls hP hS h)
theorem v_mmax (C : Cx X G cc nL own fr lo ret) {idx : Nat} {x y : Int32} (hl : Cond.methodLink own idx Lib.Math.max.name ∈ tb) (h1 : Cond.static Lib.Math.max.name ∈ tb ∧ Cond.initialized "java/lang/Math" ∈ tb ∧ Cond.code Lib.Math.max.name Lib.Math.max.code 2 (some .int) ∈ tb) (hf : 1 ≤ fr) (hlo : (rest.map fun v => v.category).sum + 13 ≤ lo) (hd : decode cc pc = .ok (.invokestatic idx, 3)) (K : V X G nL M (pc + 3) lv (.int (if x < y then y else x) :: rest)) : V X G nL M pc lv (.int y :: .int x :: rest) := fun H locs ls hP hS h => by
  obtain ⟨e1, e2, e3, e4, e5, e6, e7, e8, e9, e10, e11, e12, e13⟩ := C
  exact va_mmax e1 e2 (e3.trans h.1.symm) e4 (e5 _ hl) (e5 _ h1.1) (e5 _ h1.2.1) (e5 _ h1.2.2) (Nat.le_trans hf e8) (Nat.le_trans hlo e9) e12 e13 hd (K H locs ls hP hS h)
/-- System.arraycopy between two int rows, whole (from 0 to 0) -/
theorem v_copy (C : Cx X G cc nL own fr lo ret) {idx i j n : Nat} {x : Int32} (hl : Cond.methodLink own idx arraycopyName ∈ tb) (h1 : Cond.native arraycopyName ∈ tb ∧ Cond.static arraycopyName ∈ tb ∧ Cond.initialized "java/lang/System" ∈ tb) (ha : ga i 10 n = true) (hb : ga j 10 n = true) (hx : ¬ x < 0) (hxn : x.toNatClampNeg = n) (hf : 1 ≤ fr) (hlo : (rest.map fun v => v.category).sum + (nativeFrameWords "java/lang/System" "arraycopy" 5 + 11) ≤ lo) (hd : decode cc pc = .ok (.invokestatic idx, 3)) (K : V X G nL (wra M j (va_cpy (M i) (M j) 0 0 n)) (pc + 3) lv rest) : V X G nL M pc lv (.int x :: .int 0 :: .ref (G.2.1 j) :: .int 0 :: .ref (G.2.1 i) :: rest) := fun H locs ls hP hS h => by
  obtain ⟨e1, e2, e3, e4, e5, e6, e7, e8, e9, e10, e11, e12, e13⟩ := C
  obtain ⟨a1, a2, a3⟩ := ga_of ha
  obtain ⟨b1, b2, b3⟩ := ga_of hb
  have hset : (wo G M).set j (G.2.1 j, .inl (G.2.2 j, n, .inl (va_cpy (M i) (M j) 0 0 n))) = wo G (wra M j (va_cpy (M i) (M j) 0 0 n)) := by
    have hc := ce_ar (G := G) (M := wra M j (va_cpy (M i) (M j) 0 0 n)) (i := j) (by omega) (by omega)
    rw [wra_eq, b3] at hc
    rw [← hc]
    exact wo_set b1 (fun k hk => wra_ne hk)
  exact va_copyi (D := G.1) (cl := vwCl) e1 e2 (e3.trans h.1.symm) e4 (e5 _ hl) (e5 _ h1.1) (e5 _ h1.2.1) (e5 _ h1.2.2) (e6.ar2 a1 (by omega) b1 (by omega) (ty10 a2) (ty10 b2)) hP (wo_D e7) hS i j 0 1 (n0 := n) (n1 := n) (f := M i) (g := M j) (ty := .int) (by rw [wo_at a1, ce_ar (by omega) (by omega), a3]) (by rw [wo_at b1, ce_ar (by omega) (by omega), b3]) rfl rfl rfl (by decide) (by decide) hx (by rw [hxn]; simp) (by rw [hxn]; simp) (fun _ _ => rfl) (Nat.le_trans hf e8) (Nat.le_trans hlo e9) hd (fun H1 locs1 hP1 _ hS1 => K H1 locs1 ls (by rw [hxn] at hP1; rw [← hset]; exact hP1) hS1 h)
end VC
/-- A METHOD: its contract out of the walk of its body over V -/
theorem sp_intro {l : Launch} {G : GG} {y : MethodName} {cy : ByteArray} {mL fr lo : Nat} {ret : Option FieldType} {av : List Value} {M M' : Mem} {ov : Option Value} (lv0 : List (Option Value)) (hI : IG G) (hy : plainName y.cls = true) (hlen : (lg_sl av).length ≤ mL) (hlv : ∀ q ∈ lvp lv0, q ∈ lv_args 0 av) (body : ∀ X : XX, xl X = l → Cx X G cy mL y.cls fr lo ret → Rt X G ov M' → V X G mL M 0 lv0 []) : Sp l G y cy mL ret fr lo av M ov M' := by
  refine Met.ofW (cc := cy) (maxL := mL) (ret := ret) hy rfl ?_
  intro p e s m args below meth c s₁ B hml hv
  obtain ⟨rfl, hK, hP⟩ := hv
  have hts := atoms_spec (ws := Cond.code y cy mL ret :: gw) B.pre
  have hwd : ∀ w ∈ tb, w.before av.toArray s = true := fun w hw => by
    cases hg : goodWord w with
    | true => exact hts w (List.mem_cons_of_mem _ (List.mem_filter.mpr ⟨hw, hg⟩))
    | false =>
      have hz := hK.2.2 w hw hg
      have hn := tbl_parts hw hg
      unfold isNest at hn
      split at hn
      next => exact va_Nw.use rfl hz
      next => exact va_Nw.use rfl hz
      next => cases hn
  have hl := lv_entry av (n := mL) hlen
  rw [lg_entry_eq]
  generalize (lg_sl av ++ List.replicate (mL - (lg_sl av).length) Slot.unset).toArray = ls at hl ⊢
  exact body (p, l, e, rmo fr lo, s, m, av.toArray, below, meth, c, 0, 0, MQ below (Ps G ov M') av.toArray s 0 0 (AG G)) rfl ⟨B.exec, B.bytes, hml, findClass_of_methodNamed B.named, hwd, hK, hI, Nat.le_refl _, Nat.le_refl _, B.returns, B.notSynchronized, Nat.le_refl _, Nat.le_refl _⟩ rfl s.heap [] ls hP va_S.rf ⟨hl.1, hl.2.1, fun q hq => hl.2.2 q (hlv q hq)⟩
end
section
/-! WHAT THE PROGRAM'S FUNCTIONS AND THEIR PROOFS ARE MADE OF -/
def FU : Nat := 1000
def bd {α : Type} (o : Option (Int32 × Mem)) (k : Int32 → Mem → Option α) : Option α := match o with
  | none => none
  | some x => k x.1 x.2
def bv {α : Type} (o : Option Mem) (k : Mem → Option α) : Option α := match o with
  | none => none
  | some m => k m
theorem hB {α : Type} {o : Option (Int32 × Mem)} {k : Int32 → Mem → Option α} {r : α} (h : bd o k = some r) : ∃ x m, o = some (x, m) ∧ k x m = some r := by
  cases o with
  | none => cases h
  | some x => exact ⟨x.1, x.2, rfl, h⟩
theorem hV {α : Type} {o : Option Mem} {k : Mem → Option α} {r : α} (h : bv o k = some r) : ∃ m, o = some m ∧ k m = some r := by
  cases o with
  | none => cases h
  | some x => exact ⟨x, rfl, h⟩
theorem hT {c : Prop} {d : Decidable c} {α : Type} {a b r : α} (q : c) (h : @ite α c d a b = r) : a = r := by rw [if_pos q] at h; exact h
theorem hF {c : Prop} {d : Decidable c} {α : Type} {a b r : α} (q : ¬ c) (h : @ite α c d a b = r) : b = r := by rw [if_neg q] at h; exact h
theorem hG {c : Prop} {d : Decidable c} {α : Type} {a : Option α} {r : α} (h : @ite (Option α) c d a none = some r) : c ∧ a = some r := by
  by_cases q : c
  · rw [if_pos q] at h; exact ⟨q, h⟩
  · rw [if_neg q] at h; cases h
theorem hN {c : Prop} {d : Decidable c} {α : Type} {a : Option α} {r : α} (h : @ite (Option α) c d none a = some r) : ¬ c ∧ a = some r := by
  by_cases q : c
  · rw [if_pos q] at h; cases h
  · rw [if_neg q] at h; exact ⟨q, h⟩
theorem hR {α β : Type} {a b : α} {m n : β} (h : some (a, m) = some (b, n)) : a = b ∧ m = n := by cases h; exact ⟨rfl, rfl⟩
theorem hRv {β : Type} {m n : β} (h : some m = some n) : m = n := Option.some.inj h
def isP (c : Nat) : Bool := decide (c < NC) && kd c == 1
def isS (c : Nat) : Bool := decide (c < NC) && kd c == 2
def isI (c : Nat) : Bool := decide (c < NC) && kd c == 10
def isT (c : Nat) : Bool := decide (100 ≤ c) && decide (c < 105)
theorem isP_all : ∀ c, c < NC → kd c = 1 → (gi c 1 1 && (gi c 1 2 && (gi c 1 3 && (gr c 1 0 (c + 1) && ga (c + 1) 10 32)))) = true := by decide +kernel
theorem isS_all : ∀ c, c < NC → kd c = 2 → (gi c 2 1 && (gi c 2 2 && (gr c 2 0 (c + 1) && ga (c + 1) 10 40))) = true := by decide +kernel
theorem isP_of {c : Nat} (h : isP c = true) : gi c 1 1 = true ∧ gi c 1 2 = true ∧ gi c 1 3 = true ∧ gr c 1 0 (c + 1) = true ∧ ga (c + 1) 10 32 = true := by
  have h1 : c < NC ∧ kd c = 1 := by simpa [isP] using h
  simpa using isP_all c h1.1 h1.2
theorem isS_of {c : Nat} (h : isS c = true) : gi c 2 1 = true ∧ gi c 2 2 = true ∧ gr c 2 0 (c + 1) = true ∧ ga (c + 1) 10 40 = true := by
  have h1 : c < NC ∧ kd c = 2 := by simpa [isS] using h
  simpa using isS_all c h1.1 h1.2
theorem intP1 {c : Nat} (h : isP c = true) : gi c 1 1 = true := (isP_of h).1
theorem intP2 {c : Nat} (h : isP c = true) : gi c 1 2 = true := (isP_of h).2.1
theorem intP3 {c : Nat} (h : isP c = true) : gi c 1 3 = true := (isP_of h).2.2.1
theorem refP {c : Nat} (h : isP c = true) : gr c 1 0 (c + 1) = true := (isP_of h).2.2.2.1
theorem arrP {c : Nat} (h : isP c = true) : ga (c + 1) 10 32 = true := (isP_of h).2.2.2.2
theorem intS1 {c : Nat} (h : isS c = true) : gi c 2 1 = true := (isS_of h).1
theorem intS2 {c : Nat} (h : isS c = true) : gi c 2 2 = true := (isS_of h).2.1
theorem refS {c : Nat} (h : isS c = true) : gr c 2 0 (c + 1) = true := (isS_of h).2.2.1
theorem arrS {c : Nat} (h : isS c = true) : ga (c + 1) 10 40 = true := (isS_of h).2.2.2
theorem arrI {c : Nat} (h : isI c = true) : ga c 10 (ln c) = true := by
  have h1 : c < NC ∧ kd c = 10 := by simpa [isI] using h
  simp [ga, h1.1, h1.2]
theorem ib_lt {i : Int32} {n : Nat} (h : ib i n = true) : ix i < n := by
  simp only [ib, Bool.and_eq_true, decide_eq_true_eq] at h
  exact h.2
theorem rfP_all : ∀ k, k < 2 → (rf 7)[k]? = some (some (rfn 7 k)) ∧ isP (rfn 7 k) = true := by decide +kernel
theorem rfS_all : ∀ k, k < 4 → (rf 13)[k]? = some (some (rfn 13 k)) ∧ isS (rfn 13 k) = true := by decide +kernel
theorem rfP {i : Int32} (h : ib i 2 = true) : (rf 7)[ix i]? = some (some (rfn 7 (ix i))) := (rfP_all _ (ib_lt h)).1
theorem rfS {i : Int32} (h : ib i 4 = true) : (rf 13)[ix i]? = some (some (rfn 13 (ix i))) := (rfS_all _ (ib_lt h)).1
theorem clsP {i : Int32} (h : ib i 2 = true) : isP (rfn 7 (ix i)) = true := (rfP_all _ (ib_lt h)).2
theorem clsS {i : Int32} (h : ib i 4 = true) : isS (rfn 13 (ix i)) = true := (rfS_all _ (ib_lt h)).2
theorem tT {w : Cond} (i : Nat) (h : tables_1[i]? = some w) (hg : (goodWord w || isNest w) = true) : w ∈ tb := tb_mem (List.mem_append_right _ (List.mem_of_getElem? h)) hg
theorem tS {w : Cond} (i : Nat) (h : (k2_sels lw_privs)[i]? = some w) (hg : (goodWord w || isNest w) = true) : w ∈ tb := tb_mem (List.mem_append_left _ (List.mem_of_getElem? h)) hg
theorem Cx.ig {X : XX} {G : GG} {cc : ByteArray} {nL fr lo : Nat} {own : String} {ret : Option FieldType} (C : Cx X G cc nL own fr lo ret) : IG G := C.2.2.2.2.2.2.1
theorem ti_ne {x : Int32} {k : Int32} (h : ¬ x = k) : x.toInt ≠ k.toInt := fun e => h (Int32.toInt_inj.mp e)
theorem tsw3 {x : Int32} (h0 : ¬ x = 0) (h1 : ¬ x = 1) (h2 : ¬ x = 2) : x.toInt < 0 ∨ 2 < x.toInt := by
  have a0 := ti_ne h0
  have a1 := ti_ne h1
  have a2 := ti_ne h2
  rw [show (0 : Int32).toInt = 0 from rfl] at a0
  rw [show (1 : Int32).toInt = 1 from rfl] at a1
  rw [show (2 : Int32).toInt = 2 from rfl] at a2
  omega
theorem tsw6 {x : Int32} (h0 : ¬ x = 0) (h1 : ¬ x = 1) (h2 : ¬ x = 2) (h3 : ¬ x = 3) (h4 : ¬ x = 4) (h5 : ¬ x = 5) : x.toInt < 0 ∨ 5 < x.toInt := by
  have b := tsw3 h0 h1 h2
  have a3 := ti_ne h3
  have a4 := ti_ne h4
  have a5 := ti_ne h5
  rw [show (3 : Int32).toInt = 3 from rfl] at a3
  rw [show (4 : Int32).toInt = 4 from rfl] at a4
  rw [show (5 : Int32).toInt = 5 from rfl] at a5
  omega
theorem tsw8 {x : Int32} (h0 : ¬ x = 0) (h1 : ¬ x = 1) (h2 : ¬ x = 2) (h3 : ¬ x = 3) (h4 : ¬ x = 4) (h5 : ¬ x = 5) (h6 : ¬ x = 6) (h7 : ¬ x = 7) : x.toInt < 0 ∨ 7 < x.toInt := by
  have b := tsw6 h0 h1 h2 h3 h4 h5
  have a6 := ti_ne h6
  have a7 := ti_ne h7
  rw [show (6 : Int32).toInt = 6 from rfl] at a6
  rw [show (7 : Int32).toInt = 7 from rfl] at a7
  omega
section VK
variable {X : XX} {G : GG} {M M' : Mem} {cc : ByteArray} {nL pc fr lo : Nat} {own : String} {ret : Option FieldType} {lv : List (Option Value)} {st rest : List Value}
theorem v_iald_k {k : Nat} (C : Cx X G cc nL own fr lo ret) {i n : Nat} {j : Int32} (ha : ga i 10 n = true) (hj : ib j n = true) (hk : ix j = k) (hd : decode cc pc = .ok (.iaload, 1)) (K : V X G nL M (pc + 1) lv (.int (M i k) :: st)) : V X G nL M pc lv (.int j :: .ref (G.2.1 i) :: st) := by subst hk; exact v_iald C ha hj hd K
theorem v_zald_k {k : Nat} (C : Cx X G cc nL own fr lo ret) {i n : Nat} {j : Int32} (ha : ga i 12 n = true) (hj : ib j n = true) (hk : ix j = k) (hd : decode cc pc = .ok (.baload, 1)) (K : V X G nL M (pc + 1) lv (.int (M i k) :: st)) : V X G nL M pc lv (.int j :: .ref (G.2.1 i) :: st) := by subst hk; exact v_zald C ha hj hd K
theorem v_iast_k {k : Nat} (C : Cx X G cc nL own fr lo ret) {i n : Nat} {j x : Int32} (ha : ga i 10 n = true) (hj : ib j n = true) (hk : ix j = k) (hd : decode cc pc = .ok (.iastore, 1)) (K : V X G nL (wr M i k x) (pc + 1) lv st) : V X G nL M pc lv (.int x :: .int j :: .ref (G.2.1 i) :: st) := by subst hk; exact v_iast C ha hj hd K
theorem v_zast_k {k : Nat} (C : Cx X G cc nL own fr lo ret) {i n : Nat} {j x : Int32} (ha : ga i 12 n = true) (hj : ib j n = true) (hk : ix j = k) (hz : z01 x = true) (hd : decode cc pc = .ok (.bastore, 1)) (K : V X G nL (wr M i k x) (pc + 1) lv st) : V X G nL M pc lv (.int x :: .int j :: .ref (G.2.1 i) :: st) := by subst hk; exact v_zast C ha hj hz hd K
theorem v_callVi (C : Cx X G cc nL own fr lo ret) {idx i ci n mL fz lz : Nat} {y : MethodName} {cy : ByteArray} {rt : Option FieldType} {as : List Value} {r : Int32} (hSp : Sp (xl X) G y cy mL rt fz lz (.ref (G.2.1 i) :: as) M (some (.int r)) M') (hL : ML own idx y) (hB : MB y cy mL rt n) (hV : MV y ci) (hi : (decide (i < NC) && kd i == ci) = true) (hn : as.length = n) (hst : st = as.reverse ++ .ref (G.2.1 i) :: rest) (hw : (rest.map fun v => v.category).sum ≤ 8) (hf : fz + 1 ≤ fr) (hlo : 8 + (mL + 11) + lz ≤ lo) (hd : decode cc pc = .ok (.invokevirtual idx, 3)) (K : V X G nL M' (pc + 3) lv (.int r :: rest)) : V X G nL M pc lv st := v_callV C hSp hL hB hV hi hn hst hw hf hlo hd K
theorem v_callVv (C : Cx X G cc nL own fr lo ret) {idx i ci n mL fz lz : Nat} {y : MethodName} {cy : ByteArray} {rt : Option FieldType} {as : List Value} (hSp : Sp (xl X) G y cy mL rt fz lz (.ref (G.2.1 i) :: as) M none M') (hL : ML own idx y) (hB : MB y cy mL rt n) (hV : MV y ci) (hi : (decide (i < NC) && kd i == ci) = true) (hn : as.length = n) (hst : st = as.reverse ++ .ref (G.2.1 i) :: rest) (hw : (rest.map fun v => v.category).sum ≤ 8) (hf : fz + 1 ≤ fr) (hlo : 8 + (mL + 11) + lz ≤ lo) (hd : decode cc pc = .ok (.invokevirtual idx, 3)) (K : V X G nL M' (pc + 3) lv rest) : V X G nL M pc lv st := v_callV C hSp hL hB hV hi hn hst hw hf hlo hd K
theorem v_callVr (C : Cx X G cc nL own fr lo ret) {idx i ci n mL fz lz r : Nat} {y : MethodName} {cy : ByteArray} {rt : Option FieldType} {as : List Value} (hSp : Sp (xl X) G y cy mL rt fz lz (.ref (G.2.1 i) :: as) M (some (.ref (G.2.1 r))) M') (hL : ML own idx y) (hB : MB y cy mL rt n) (hV : MV y ci) (hi : (decide (i < NC) && kd i == ci) = true) (hn : as.length = n) (hst : st = as.reverse ++ .ref (G.2.1 i) :: rest) (hw : (rest.map fun v => v.category).sum ≤ 8) (hf : fz + 1 ≤ fr) (hlo : 8 + (mL + 11) + lz ≤ lo) (hd : decode cc pc = .ok (.invokevirtual idx, 3)) (K : V X G nL M' (pc + 3) lv (.ref (G.2.1 r) :: rest)) : V X G nL M pc lv st := v_callV C hSp hL hB hV hi hn hst hw hf hlo hd K
theorem v_callSi (C : Cx X G cc nL own fr lo ret) {idx n mL fz lz : Nat} {y : MethodName} {cy : ByteArray} {rt : Option FieldType} {as : List Value} {r : Int32} (hSp : Sp (xl X) G y cy mL rt fz lz as M (some (.int r)) M') (hL : ML own idx y) (hB : MB y cy mL rt n) (hV : MS y) (hn : as.length = n) (hst : st = as.reverse ++ rest) (hw : (rest.map fun v => v.category).sum ≤ 8) (hf : fz + 1 ≤ fr) (hlo : 8 + (mL + 11) + lz ≤ lo) (hd : decode cc pc = .ok (.invokestatic idx, 3)) (K : V X G nL M' (pc + 3) lv (.int r :: rest)) : V X G nL M pc lv st := v_callS C hSp hL hB hV hn hst hw hf hlo hd K
theorem v_callSv (C : Cx X G cc nL own fr lo ret) {idx n mL fz lz : Nat} {y : MethodName} {cy : ByteArray} {rt : Option FieldType} {as : List Value} (hSp : Sp (xl X) G y cy mL rt fz lz as M none M') (hL : ML own idx y) (hB : MB y cy mL rt n) (hV : MS y) (hn : as.length = n) (hst : st = as.reverse ++ rest) (hw : (rest.map fun v => v.category).sum ≤ 8) (hf : fz + 1 ≤ fr) (hlo : 8 + (mL + 11) + lz ≤ lo) (hd : decode cc pc = .ok (.invokestatic idx, 3)) (K : V X G nL M' (pc + 3) lv rest) : V X G nL M pc lv st := v_callS C hSp hL hB hV hn hst hw hf hlo hd K
end VK
theorem w_mmin : Cond.static Lib.Math.min.name ∈ tb ∧ Cond.initialized "java/lang/Math" ∈ tb ∧ Cond.code Lib.Math.min.name Lib.Math.min.code 2 (some .int) ∈ tb := by decide +kernel
theorem w_mmax : Cond.static Lib.Math.max.name ∈ tb ∧ Cond.initialized "java/lang/Math" ∈ tb ∧ Cond.code Lib.Math.max.name Lib.Math.max.code 2 (some .int) ∈ tb := by decide +kernel
theorem w_copy : Cond.native arraycopyName ∈ tb ∧ Cond.static arraycopyName ∈ tb ∧ Cond.initialized "java/lang/System" ∈ tb := by decide +kernel
end
section
/-! WORDS of fields and calls, by their places in the tables -/
theorem fk_X0_19 : FK RX0 19 1 1 .int false := ⟨(RX1, TX1, 4), tyX1, ck1, by decide, rfl, rfl, rfl, by decide, Or.inr ⟨"PencilForms", (tT 37 (by decide +kernel) rfl)⟩⟩
theorem fk_X0_15 : FK RX0 15 0 1 .int false := ⟨(RX0, TX0, 4), tyX0, ck0, by decide, rfl, rfl, rfl, by decide, Or.inl (tT 141 (by decide +kernel) rfl)⟩
theorem fk_X0_22 : FK RX0 22 1 2 .int false := ⟨(RX1, TX1, 4), tyX1, ck1, by decide, rfl, rfl, rfl, by decide, Or.inr ⟨"PencilForms", (tT 41 (by decide +kernel) rfl)⟩⟩
theorem fk_X0_31 : FK RX0 31 0 2 .int false := ⟨(RX0, TX0, 4), tyX0, ck0, by decide, rfl, rfl, rfl, by decide, Or.inl (tT 142 (by decide +kernel) rfl)⟩
theorem fk_X0_34 : FK RX0 34 1 3 .int false := ⟨(RX1, TX1, 4), tyX1, ck1, by decide, rfl, rfl, rfl, by decide, Or.inr ⟨"PencilForms", (tT 47 (by decide +kernel) rfl)⟩⟩
theorem fk_X0_37 : FK RX0 37 0 3 .int false := ⟨(RX0, TX0, 4), tyX0, ck0, by decide, rfl, rfl, rfl, by decide, Or.inl (tT 143 (by decide +kernel) rfl)⟩
theorem fk_X0_11 : FK RX0 11 0 0 (.array .int) true := ⟨(RX0, TX0, 4), tyX0, ck0, by decide, rfl, rfl, rfl, by decide, Or.inl (tT 140 (by decide +kernel) rfl)⟩
theorem ml_X0_40 : ML RX0 40 yJ7_fill_53178 := Or.inl (tT 378 (by decide +kernel) rfl)
theorem mb_J7_fill_53178 : MB yJ7_fill_53178 cJ7_fill_53178 4 none 2 := ⟨(tT 227 (by decide +kernel) rfl), (tT 8 (by decide +kernel) rfl), by decide, by decide, by decide +kernel⟩
theorem ms_J7_fill_53178 : MS yJ7_fill_53178 := (tT 226 (by decide +kernel) rfl)
theorem fk_X1_25 : FK RX1 25 1 2 .int false := ⟨(RX1, TX1, 4), tyX1, ck1, by decide, rfl, rfl, rfl, by decide, Or.inl (tT 42 (by decide +kernel) rfl)⟩
theorem fk_X1_28 : FK RX1 28 1 3 .int false := ⟨(RX1, TX1, 4), tyX1, ck1, by decide, rfl, rfl, rfl, by decide, Or.inl (tT 46 (by decide +kernel) rfl)⟩
theorem ml_X1_45 : ML RX1 45 yX1_hasPlace := Or.inl (tT 339 (by decide +kernel) rfl)
theorem mb_X1_hasPlace : MB yX1_hasPlace cX1_hasPlace 4 (some .boolean) 3 := ⟨(tT 342 (by decide +kernel) rfl), (tT 3 (by decide +kernel) rfl), by decide, by decide, by decide +kernel⟩
theorem mv_X1_hasPlace : MV yX1_hasPlace 1 := ⟨(tT 340 (by decide +kernel) rfl), (tT 341 (by decide +kernel) rfl), by decide, _, rfl, rfl⟩
theorem fk_X1_11 : FK RX1 11 1 0 (.array .int) true := ⟨(RX1, TX1, 4), tyX1, ck1, by decide, rfl, rfl, rfl, by decide, Or.inl (tT 35 (by decide +kernel) rfl)⟩
theorem ml_X1_49 : ML RX1 49 yX1_spot := Or.inl (tT 343 (by decide +kernel) rfl)
theorem mb_X1_spot : MB yX1_spot cX1_spot 3 (some .int) 3 := ⟨(tT 345 (by decide +kernel) rfl), (tT 3 (by decide +kernel) rfl), by decide, by decide, by decide +kernel⟩
theorem ms_X1_spot : MS yX1_spot := (tT 344 (by decide +kernel) rfl)
theorem ml_X0_46 : ML RX0 46 yX1_valueAt := Or.inl (tT 383 (by decide +kernel) rfl)
theorem mb_X1_valueAt : MB yX1_valueAt cX1_valueAt 4 (some .int) 3 := ⟨(tT 386 (by decide +kernel) rfl), (tT 3 (by decide +kernel) rfl), by decide, by decide, by decide +kernel⟩
theorem mv_X1_valueAt : MV yX1_valueAt 1 := ⟨(tT 384 (by decide +kernel) rfl), (tT 385 (by decide +kernel) rfl), by decide, _, rfl, rfl⟩
theorem ml_X0_50 : ML RX0 50 yX5_reduce := Or.inr ⟨"PencilForms", (tT 387 (by decide +kernel) rfl)⟩
theorem mb_X5_reduce : MB yX5_reduce cX5_reduce 3 (some .int) 2 := ⟨(tT 389 (by decide +kernel) rfl), (tT 1 (by decide +kernel) rfl), by decide, by decide, by decide +kernel⟩
theorem ms_X5_reduce : MS yX5_reduce := (tT 388 (by decide +kernel) rfl)
theorem ml_X0_53 : ML RX0 53 yX0_putNumber := Or.inl (tT 390 (by decide +kernel) rfl)
theorem mb_X0_putNumber : MB yX0_putNumber cX0_putNumber 4 none 3 := ⟨(tT 393 (by decide +kernel) rfl), (tT 6 (by decide +kernel) rfl), by decide, by decide, by decide +kernel⟩
theorem mv_X0_putNumber : MV yX0_putNumber 0 := ⟨(tT 392 (by decide +kernel) rfl), (tS 12 (by decide +kernel) rfl), by decide, _, rfl, rfl⟩
theorem ml_X0_57 : ML RX0 57 yX0_findPivot := Or.inl (tT 398 (by decide +kernel) rfl)
theorem mb_X0_findPivot : MB yX0_findPivot cX0_findPivot 4 (some .int) 2 := ⟨(tT 401 (by decide +kernel) rfl), (tT 6 (by decide +kernel) rfl), by decide, by decide, by decide +kernel⟩
theorem mv_X0_findPivot : MV yX0_findPivot 0 := ⟨(tT 400 (by decide +kernel) rfl), (tS 13 (by decide +kernel) rfl), by decide, _, rfl, rfl⟩
theorem ml_X0_60 : ML RX0 60 yX0_exchangeRows := Or.inl (tT 402 (by decide +kernel) rfl)
theorem mb_X0_exchangeRows : MB yX0_exchangeRows cX0_exchangeRows 6 none 3 := ⟨(tT 405 (by decide +kernel) rfl), (tT 6 (by decide +kernel) rfl), by decide, by decide, by decide +kernel⟩
theorem mv_X0_exchangeRows : MV yX0_exchangeRows 0 := ⟨(tT 404 (by decide +kernel) rfl), (tS 14 (by decide +kernel) rfl), by decide, _, rfl, rfl⟩
theorem ml_X0_63 : ML RX0 63 yX0_clearBelow := Or.inl (tT 406 (by decide +kernel) rfl)
theorem mb_X0_clearBelow : MB yX0_clearBelow cX0_clearBelow 8 none 2 := ⟨(tT 409 (by decide +kernel) rfl), (tT 6 (by decide +kernel) rfl), by decide, by decide, by decide +kernel⟩
theorem mv_X0_clearBelow : MV yX0_clearBelow 0 := ⟨(tT 408 (by decide +kernel) rfl), (tS 15 (by decide +kernel) rfl), by decide, _, rfl, rfl⟩
theorem ml_X1_19 : ML RX1 19 yJ7_fill_53178 := Or.inl (tT 225 (by decide +kernel) rfl)
theorem fk_X1_15 : FK RX1 15 1 1 .int false := ⟨(RX1, TX1, 4), tyX1, ck1, by decide, rfl, rfl, rfl, by decide, Or.inl (tT 36 (by decide +kernel) rfl)⟩
theorem ml_X1_37 : ML RX1 37 yX5_isSide := Or.inr ⟨"PencilForms", (tT 580 (by decide +kernel) rfl)⟩
theorem mb_X5_isSide : MB yX5_isSide cX5_isSide 1 (some .boolean) 1 := ⟨(tT 507 (by decide +kernel) rfl), (tT 1 (by decide +kernel) rfl), by decide, by decide, by decide +kernel⟩
theorem ms_X5_isSide : MS yX5_isSide := (tT 506 (by decide +kernel) rfl)
theorem ml_X1_41 : ML RX1 41 yX1_linesOf := Or.inl (tT 581 (by decide +kernel) rfl)
theorem mb_X1_linesOf : MB yX1_linesOf cX1_linesOf 2 (some .int) 1 := ⟨(tT 549 (by decide +kernel) rfl), (tT 3 (by decide +kernel) rfl), by decide, by decide, by decide +kernel⟩
theorem mv_X1_linesOf : MV yX1_linesOf 1 := ⟨(tT 547 (by decide +kernel) rfl), (tT 548 (by decide +kernel) rfl), by decide, _, rfl, rfl⟩
theorem ml_X1_53 : ML RX1 53 yX1_growTo := Or.inl (tT 554 (by decide +kernel) rfl)
theorem mb_X1_growTo : MB yX1_growTo cX1_growTo 3 none 2 := ⟨(tT 331 (by decide +kernel) rfl), (tT 3 (by decide +kernel) rfl), by decide, by decide, by decide +kernel⟩
theorem mv_X1_growTo : MV yX1_growTo 1 := ⟨(tT 329 (by decide +kernel) rfl), (tT 330 (by decide +kernel) rfl), by decide, _, rfl, rfl⟩
theorem ml_X1_63 : ML RX1 63 yX1_putValue := Or.inl (tT 567 (by decide +kernel) rfl)
theorem mb_X1_putValue : MB yX1_putValue cX1_putValue 5 none 4 := ⟨(tT 338 (by decide +kernel) rfl), (tT 3 (by decide +kernel) rfl), by decide, by decide, by decide +kernel⟩
theorem mv_X1_putValue : MV yX1_putValue 1 := ⟨(tT 336 (by decide +kernel) rfl), (tT 337 (by decide +kernel) rfl), by decide, _, rfl, rfl⟩
theorem ml_X1_81 : ML RX1 81 yX1_valueAt := Or.inl (tT 594 (by decide +kernel) rfl)
theorem ml_X1_67 : ML RX1 67 yX1_onLine := Or.inl (tT 590 (by decide +kernel) rfl)
theorem mb_X1_onLine : MB yX1_onLine cX1_onLine 5 (some .int) 4 := ⟨(tT 593 (by decide +kernel) rfl), (tT 3 (by decide +kernel) rfl), by decide, by decide, by decide +kernel⟩
theorem mv_X1_onLine : MV yX1_onLine 1 := ⟨(tT 592 (by decide +kernel) rfl), (tS 23 (by decide +kernel) rfl), by decide, _, rfl, rfl⟩
theorem ml_X1_71 : ML RX1 71 yX5_reduce := Or.inr ⟨"PencilForms", (tT 595 (by decide +kernel) rfl)⟩
theorem ml_X1_74 : ML RX1 74 yX1_putOnLine := Or.inl (tT 596 (by decide +kernel) rfl)
theorem mb_X1_putOnLine : MB yX1_putOnLine cX1_putOnLine 6 none 5 := ⟨(tT 599 (by decide +kernel) rfl), (tT 3 (by decide +kernel) rfl), by decide, by decide, by decide +kernel⟩
theorem mv_X1_putOnLine : MV yX1_putOnLine 1 := ⟨(tT 598 (by decide +kernel) rfl), (tS 24 (by decide +kernel) rfl), by decide, _, rfl, rfl⟩
theorem ml_X1_78 : ML RX1 78 yX1_exchangeSpots := Or.inl (tT 423 (by decide +kernel) rfl)
theorem mb_X1_exchangeSpots : MB yX1_exchangeSpots cX1_exchangeSpots 4 none 2 := ⟨(tT 426 (by decide +kernel) rfl), (tT 3 (by decide +kernel) rfl), by decide, by decide, by decide +kernel⟩
theorem mv_X1_exchangeSpots : MV yX1_exchangeSpots 1 := ⟨(tT 425 (by decide +kernel) rfl), (tS 17 (by decide +kernel) rfl), by decide, _, rfl, rfl⟩
theorem fk_X2_15 : FK RX2 15 2 2 .int false := ⟨(RX2, TX2, 3), tyX2, ck2, by decide, rfl, rfl, rfl, by decide, Or.inl (tT 116 (by decide +kernel) rfl)⟩
theorem fk_X2_9 : FK RX2 9 2 0 (.array .int) true := ⟨(RX2, TX2, 3), tyX2, ck2, by decide, rfl, rfl, rfl, by decide, Or.inl (tT 114 (by decide +kernel) rfl)⟩
theorem ml_X2_19 : ML RX2 19 yJ7_fill_53178 := Or.inl (tT 676 (by decide +kernel) rfl)
theorem fk_X2_25 : FK RX2 25 2 1 .int false := ⟨(RX2, TX2, 3), tyX2, ck2, by decide, rfl, rfl, rfl, by decide, Or.inl (tT 115 (by decide +kernel) rfl)⟩
theorem ml_X2_34 : ML RX2 34 yX2_isNothing := Or.inl (tT 686 (by decide +kernel) rfl)
theorem mb_X2_isNothing : MB yX2_isNothing cX2_isNothing 1 (some .boolean) 0 := ⟨(tT 689 (by decide +kernel) rfl), (tT 4 (by decide +kernel) rfl), by decide, by decide, by decide +kernel⟩
theorem mv_X2_isNothing : MV yX2_isNothing 2 := ⟨(tT 687 (by decide +kernel) rfl), (tT 688 (by decide +kernel) rfl), by decide, _, rfl, rfl⟩
theorem ml_X2_38 : ML RX2 38 yX2_findAt := Or.inl (tT 694 (by decide +kernel) rfl)
theorem mb_X2_findAt : MB yX2_findAt cX2_findAt 2 (some .int) 1 := ⟨(tT 685 (by decide +kernel) rfl), (tT 4 (by decide +kernel) rfl), by decide, by decide, by decide +kernel⟩
theorem mv_X2_findAt : MV yX2_findAt 2 := ⟨(tT 683 (by decide +kernel) rfl), (tT 684 (by decide +kernel) rfl), by decide, _, rfl, rfl⟩
theorem fk_X3_22 : FK RX3 22 3 2 .int false := ⟨(RX3, TX3, 12), tyX3, ck3, by decide, rfl, rfl, rfl, by decide, Or.inl (tT 65 (by decide +kernel) rfl)⟩
theorem fk_X3_9 : FK RX3 9 3 0 (.array .byte) true := ⟨(RX3, TX3, 12), tyX3, ck3, by decide, rfl, rfl, rfl, by decide, Or.inl (tT 62 (by decide +kernel) rfl)⟩
theorem fk_X3_26 : FK RX3 26 3 3 .int false := ⟨(RX3, TX3, 12), tyX3, ck3, by decide, rfl, rfl, rfl, by decide, Or.inl (tT 67 (by decide +kernel) rfl)⟩
theorem fk_X3_82 : FK RX3 82 3 6 .int false := ⟨(RX3, TX3, 12), tyX3, ck3, by decide, rfl, rfl, rfl, by decide, Or.inl (tT 70 (by decide +kernel) rfl)⟩
theorem fk_X3_69 : FK RX3 69 3 5 .int false := ⟨(RX3, TX3, 12), tyX3, ck3, by decide, rfl, rfl, rfl, by decide, Or.inl (tT 69 (by decide +kernel) rfl)⟩
theorem fk_X3_36 : FK RX3 36 3 10 .int false := ⟨(RX3, TX3, 12), tyX3, ck3, by decide, rfl, rfl, rfl, by decide, Or.inl (tT 75 (by decide +kernel) rfl)⟩
theorem fk_X3_39 : FK RX3 39 3 11 .int false := ⟨(RX3, TX3, 12), tyX3, ck3, by decide, rfl, rfl, rfl, by decide, Or.inl (tT 77 (by decide +kernel) rfl)⟩
theorem ml_X3_61 : ML RX3 61 yX3_stopAt := Or.inl (tT 240 (by decide +kernel) rfl)
theorem mb_X3_stopAt : MB yX3_stopAt cX3_stopAt 3 (some .boolean) 2 := ⟨(tT 243 (by decide +kernel) rfl), (tT 2 (by decide +kernel) rfl), by decide, by decide, by decide +kernel⟩
theorem mv_X3_stopAt : MV yX3_stopAt 3 := ⟨(tT 242 (by decide +kernel) rfl), (tS 3 (by decide +kernel) rfl), by decide, _, rfl, rfl⟩
theorem fk_X3_52 : FK RX3 52 3 4 .int false := ⟨(RX3, TX3, 12), tyX3, ck3, by decide, rfl, rfl, rfl, by decide, Or.inl (tT 68 (by decide +kernel) rfl)⟩
theorem ml_X3_108 : ML RX3 108 yX3_endOfRun := Or.inl (tT 232 (by decide +kernel) rfl)
theorem mb_X3_endOfRun : MB yX3_endOfRun cX3_endOfRun 4 (some .int) 2 := ⟨(tT 235 (by decide +kernel) rfl), (tT 2 (by decide +kernel) rfl), by decide, by decide, by decide +kernel⟩
theorem mv_X3_endOfRun : MV yX3_endOfRun 3 := ⟨(tT 234 (by decide +kernel) rfl), (tS 1 (by decide +kernel) rfl), by decide, _, rfl, rfl⟩
theorem ml_X3_112 : ML RX3 112 yX3_takeNumber := Or.inl (tT 236 (by decide +kernel) rfl)
theorem mb_X3_takeNumber : MB yX3_takeNumber cX3_takeNumber 2 (some .boolean) 0 := ⟨(tT 239 (by decide +kernel) rfl), (tT 2 (by decide +kernel) rfl), by decide, by decide, by decide +kernel⟩
theorem mv_X3_takeNumber : MV yX3_takeNumber 3 := ⟨(tT 238 (by decide +kernel) rfl), (tS 2 (by decide +kernel) rfl), by decide, _, rfl, rfl⟩
theorem ml_X3_128 : ML RX3 128 yJ0_length_8abf5 := Or.inl (tT 257 (by decide +kernel) rfl)
theorem ml_X3_133 : ML RX3 133 yJ0_charAt_5068e := Or.inl (tT 267 (by decide +kernel) rfl)
theorem ml_X3_116 : ML RX3 116 yX3_nameIs := Or.inl (tT 253 (by decide +kernel) rfl)
theorem mb_X3_nameIs : MB yX3_nameIs cX3_nameIs 3 (some .boolean) 1 := ⟨(tT 256 (by decide +kernel) rfl), (tT 2 (by decide +kernel) rfl), by decide, by decide, by decide +kernel⟩
theorem mv_X3_nameIs : MV yX3_nameIs 3 := ⟨(tT 255 (by decide +kernel) rfl), (tS 6 (by decide +kernel) rfl), by decide, _, rfl, rfl⟩
theorem ml_X3_48 : ML RX3 48 yX3_readToken := Or.inl (tT 228 (by decide +kernel) rfl)
theorem mb_X3_readToken : MB yX3_readToken cX3_readToken 2 (some .boolean) 0 := ⟨(tT 231 (by decide +kernel) rfl), (tT 2 (by decide +kernel) rfl), by decide, by decide, by decide +kernel⟩
theorem mv_X3_readToken : MV yX3_readToken 3 := ⟨(tT 230 (by decide +kernel) rfl), (tS 0 (by decide +kernel) rfl), by decide, _, rfl, rfl⟩
theorem fk_X3_32 : FK RX3 32 3 9 .boolean false := ⟨(RX3, TX3, 12), tyX3, ck3, by decide, rfl, rfl, rfl, by decide, Or.inl (tT 74 (by decide +kernel) rfl)⟩
theorem ml_X3_79 : ML RX3 79 yX3_readNumber := Or.inl (tT 313 (by decide +kernel) rfl)
theorem mb_X3_readNumber : MB yX3_readNumber cX3_readNumber 3 (some .boolean) 2 := ⟨(tT 316 (by decide +kernel) rfl), (tT 2 (by decide +kernel) rfl), by decide, by decide, by decide +kernel⟩
theorem mv_X3_readNumber : MV yX3_readNumber 3 := ⟨(tT 315 (by decide +kernel) rfl), (tS 8 (by decide +kernel) rfl), by decide, _, rfl, rfl⟩
theorem fk_X3_18 : FK RX3 18 3 1 (.object "PencilForms$Pair") true := ⟨(RX3, TX3, 12), tyX3, ck3, by decide, rfl, rfl, rfl, by decide, Or.inl (tT 63 (by decide +kernel) rfl)⟩
theorem fk_X3_58 : FK RX3 58 1 1 .int false := ⟨(RX1, TX1, 4), tyX1, ck1, by decide, rfl, rfl, rfl, by decide, Or.inr ⟨"PencilForms", (tT 38 (by decide +kernel) rfl)⟩⟩
theorem ml_X3_105 : ML RX3 105 yX1_putValue := Or.inl (tT 335 (by decide +kernel) rfl)
theorem fk_X3_91 : FK RX3 91 1 2 .int false := ⟨(RX1, TX1, 4), tyX1, ck1, by decide, rfl, rfl, rfl, by decide, Or.inr ⟨"PencilForms", (tT 44 (by decide +kernel) rfl)⟩⟩
theorem fk_X3_94 : FK RX3 94 1 3 .int false := ⟨(RX1, TX1, 4), tyX1, ck1, by decide, rfl, rfl, rfl, by decide, Or.inr ⟨"PencilForms", (tT 49 (by decide +kernel) rfl)⟩⟩
theorem ml_X3_101 : ML RX3 101 yX1_growTo := Or.inl (tT 328 (by decide +kernel) rfl)
theorem ml_X3_97 : ML RX3 97 yX3_putBlock := Or.inl (tT 324 (by decide +kernel) rfl)
theorem mb_X3_putBlock : MB yX3_putBlock cX3_putBlock 10 none 4 := ⟨(tT 327 (by decide +kernel) rfl), (tT 2 (by decide +kernel) rfl), by decide, by decide, by decide +kernel⟩
theorem mv_X3_putBlock : MV yX3_putBlock 3 := ⟨(tT 326 (by decide +kernel) rfl), (tS 10 (by decide +kernel) rfl), by decide, _, rfl, rfl⟩
theorem fk_X3_29 : FK RX3 29 3 8 .int false := ⟨(RX3, TX3, 12), tyX3, ck3, by decide, rfl, rfl, rfl, by decide, Or.inl (tT 73 (by decide +kernel) rfl)⟩
theorem ml_X3_75 : ML RX3 75 yX3_readBlock := Or.inl (tT 317 (by decide +kernel) rfl)
theorem mb_X3_readBlock : MB yX3_readBlock cX3_readBlock 6 (some .boolean) 1 := ⟨(tT 320 (by decide +kernel) rfl), (tT 2 (by decide +kernel) rfl), by decide, by decide, by decide +kernel⟩
theorem mv_X3_readBlock : MV yX3_readBlock 3 := ⟨(tT 319 (by decide +kernel) rfl), (tS 9 (by decide +kernel) rfl), by decide, _, rfl, rfl⟩
theorem ml_X3_72 : ML RX3 72 yX3_readPrime := Or.inl (tT 309 (by decide +kernel) rfl)
theorem mb_X3_readPrime : MB yX3_readPrime cX3_readPrime 1 (some .boolean) 0 := ⟨(tT 312 (by decide +kernel) rfl), (tT 2 (by decide +kernel) rfl), by decide, by decide, by decide +kernel⟩
theorem mv_X3_readPrime : MV yX3_readPrime 3 := ⟨(tT 311 (by decide +kernel) rfl), (tS 7 (by decide +kernel) rfl), by decide, _, rfl, rfl⟩
theorem ml_X3_65 : ML RX3 65 yX3_lineOfName := Or.inl (tT 248 (by decide +kernel) rfl)
theorem mb_X3_lineOfName : MB yX3_lineOfName cX3_lineOfName 1 (some .int) 0 := ⟨(tT 251 (by decide +kernel) rfl), (tT 2 (by decide +kernel) rfl), by decide, by decide, by decide +kernel⟩
theorem mv_X3_lineOfName : MV yX3_lineOfName 3 := ⟨(tT 250 (by decide +kernel) rfl), (tS 5 (by decide +kernel) rfl), by decide, _, rfl, rfl⟩
theorem fk_X3_45 : FK RX3 45 3 7 .int false := ⟨(RX3, TX3, 12), tyX3, ck3, by decide, rfl, rfl, rfl, by decide, Or.inl (tT 71 (by decide +kernel) rfl)⟩
theorem ml_X3_55 : ML RX3 55 yX3_readLine := Or.inl (tT 244 (by decide +kernel) rfl)
theorem mb_X3_readLine : MB yX3_readLine cX3_readLine 3 (some .boolean) 0 := ⟨(tT 247 (by decide +kernel) rfl), (tT 2 (by decide +kernel) rfl), by decide, by decide, by decide +kernel⟩
theorem mv_X3_readLine : MV yX3_readLine 3 := ⟨(tT 246 (by decide +kernel) rfl), (tS 4 (by decide +kernel) rfl), by decide, _, rfl, rfl⟩
theorem ml_X3_42 : ML RX3 42 yX1_makeEmpty := Or.inl (tT 221 (by decide +kernel) rfl)
theorem mb_X1_makeEmpty : MB yX1_makeEmpty cX1_makeEmpty 1 none 0 := ⟨(tT 224 (by decide +kernel) rfl), (tT 3 (by decide +kernel) rfl), by decide, by decide, by decide +kernel⟩
theorem mv_X1_makeEmpty : MV yX1_makeEmpty 1 := ⟨(tT 222 (by decide +kernel) rfl), (tT 223 (by decide +kernel) rfl), by decide, _, rfl, rfl⟩
theorem ml_X4_46 : ML RX4 46 yX0_putBlock := Or.inl (tT 379 (by decide +kernel) rfl)
theorem mb_X0_putBlock : MB yX0_putBlock cX0_putBlock 9 none 5 := ⟨(tT 382 (by decide +kernel) rfl), (tT 6 (by decide +kernel) rfl), by decide, by decide, by decide +kernel⟩
theorem mv_X0_putBlock : MV yX0_putBlock 0 := ⟨(tT 380 (by decide +kernel) rfl), (tT 381 (by decide +kernel) rfl), by decide, _, rfl, rfl⟩
theorem fk_X4_21 : FK RX4 21 4 0 (.object "PencilForms$Equations") true := ⟨(RX4, TX4, 5), tyX4, ck4, by decide, rfl, rfl, rfl, by decide, Or.inl (tT 154 (by decide +kernel) rfl)⟩
theorem ml_X4_43 : ML RX4 43 yX0_begin := Or.inl (tT 373 (by decide +kernel) rfl)
theorem mb_X0_begin : MB yX0_begin cX0_begin 4 none 3 := ⟨(tT 376 (by decide +kernel) rfl), (tT 6 (by decide +kernel) rfl), by decide, by decide, by decide +kernel⟩
theorem mv_X0_begin : MV yX0_begin 0 := ⟨(tT 374 (by decide +kernel) rfl), (tT 375 (by decide +kernel) rfl), by decide, _, rfl, rfl⟩
theorem fk_X4_58 : FK RX4 58 1 1 .int false := ⟨(RX1, TX1, 4), tyX1, ck1, by decide, rfl, rfl, rfl, by decide, Or.inr ⟨"PencilForms", (tT 39 (by decide +kernel) rfl)⟩⟩
theorem ml_X4_35 : ML RX4 35 yX4_putChains := Or.inl (tT 435 (by decide +kernel) rfl)
theorem mb_X4_putChains : MB yX4_putChains cX4_putChains 6 none 3 := ⟨(tT 438 (by decide +kernel) rfl), (tT 5 (by decide +kernel) rfl), by decide, by decide, by decide +kernel⟩
theorem mv_X4_putChains : MV yX4_putChains 4 := ⟨(tT 437 (by decide +kernel) rfl), (tS 18 (by decide +kernel) rfl), by decide, _, rfl, rfl⟩
theorem ml_X4_39 : ML RX4 39 yX0_useUpForRank := Or.inl (tT 394 (by decide +kernel) rfl)
theorem mb_X0_useUpForRank : MB yX0_useUpForRank cX0_useUpForRank 4 (some .int) 0 := ⟨(tT 397 (by decide +kernel) rfl), (tT 6 (by decide +kernel) rfl), by decide, by decide, by decide +kernel⟩
theorem mv_X0_useUpForRank : MV yX0_useUpForRank 0 := ⟨(tT 395 (by decide +kernel) rfl), (tT 396 (by decide +kernel) rfl), by decide, _, rfl, rfl⟩
theorem fk_X4_50 : FK RX4 50 0 3 .int false := ⟨(RX0, TX0, 4), tyX0, ck0, by decide, rfl, rfl, rfl, by decide, Or.inr ⟨"PencilForms", (tT 144 (by decide +kernel) rfl)⟩⟩
theorem ml_X4_54 : ML RX4 54 yX4_stepsOf := Or.inl (tT 516 (by decide +kernel) rfl)
theorem mb_X4_stepsOf : MB yX4_stepsOf cX4_stepsOf 4 (some .int) 2 := ⟨(tT 511 (by decide +kernel) rfl), (tT 5 (by decide +kernel) rfl), by decide, by decide, by decide +kernel⟩
theorem mv_X4_stepsOf : MV yX4_stepsOf 4 := ⟨(tT 509 (by decide +kernel) rfl), (tT 510 (by decide +kernel) rfl), by decide, _, rfl, rfl⟩
theorem ml_X4_61 : ML RX4 61 yX4_chainsAt := Or.inl (tT 431 (by decide +kernel) rfl)
theorem mb_X4_chainsAt : MB yX4_chainsAt cX4_chainsAt 4 (some .int) 3 := ⟨(tT 434 (by decide +kernel) rfl), (tT 5 (by decide +kernel) rfl), by decide, by decide, by decide +kernel⟩
theorem mv_X4_chainsAt : MV yX4_chainsAt 4 := ⟨(tT 432 (by decide +kernel) rfl), (tT 433 (by decide +kernel) rfl), by decide, _, rfl, rfl⟩
theorem fk_X4_65 : FK RX4 65 1 3 .int false := ⟨(RX1, TX1, 4), tyX1, ck1, by decide, rfl, rfl, rfl, by decide, Or.inr ⟨"PencilForms", (tT 50 (by decide +kernel) rfl)⟩⟩
theorem fk_X4_32 : FK RX4 32 4 4 (.array .int) true := ⟨(RX4, TX4, 5), tyX4, ck4, by decide, rfl, rfl, rfl, by decide, Or.inl (tT 158 (by decide +kernel) rfl)⟩
theorem ml_X4_68 : ML RX4 68 yX0_addImageUnderA := Or.inl (tT 529 (by decide +kernel) rfl)
theorem mb_X0_addImageUnderA : MB yX0_addImageUnderA cX0_addImageUnderA 6 none 2 := ⟨(tT 532 (by decide +kernel) rfl), (tT 6 (by decide +kernel) rfl), by decide, by decide, by decide +kernel⟩
theorem mv_X0_addImageUnderA : MV yX0_addImageUnderA 0 := ⟨(tT 530 (by decide +kernel) rfl), (tT 531 (by decide +kernel) rfl), by decide, _, rfl, rfl⟩
theorem ml_X4_97 : ML RX4 97 yX4_nullsOf := Or.inl (tT 369 (by decide +kernel) rfl)
theorem mb_X4_nullsOf : MB yX4_nullsOf cX4_nullsOf 4 (some .int) 2 := ⟨(tT 372 (by decide +kernel) rfl), (tT 5 (by decide +kernel) rfl), by decide, by decide, by decide +kernel⟩
theorem mv_X4_nullsOf : MV yX4_nullsOf 4 := ⟨(tT 370 (by decide +kernel) rfl), (tT 371 (by decide +kernel) rfl), by decide, _, rfl, rfl⟩
theorem fk_X4_25 : FK RX4 25 4 2 (.array .int) true := ⟨(RX4, TX4, 5), tyX4, ck4, by decide, rfl, rfl, rfl, by decide, Or.inl (tT 156 (by decide +kernel) rfl)⟩
theorem ml_X4_72 : ML RX4 72 yX4_countIndices := Or.inl (tT 365 (by decide +kernel) rfl)
theorem mb_X4_countIndices : MB yX4_countIndices cX4_countIndices 8 (some .int) 2 := ⟨(tT 368 (by decide +kernel) rfl), (tT 5 (by decide +kernel) rfl), by decide, by decide, by decide +kernel⟩
theorem mv_X4_countIndices : MV yX4_countIndices 4 := ⟨(tT 367 (by decide +kernel) rfl), (tS 11 (by decide +kernel) rfl), by decide, _, rfl, rfl⟩
theorem ml_X4_76 : ML RX4 76 yX4_indexIn := Or.inl (tT 477 (by decide +kernel) rfl)
theorem mb_X4_indexIn : MB yX4_indexIn cX4_indexIn 4 (some .int) 2 := ⟨(tT 479 (by decide +kernel) rfl), (tT 5 (by decide +kernel) rfl), by decide, by decide, by decide +kernel⟩
theorem ms_X4_indexIn : MS yX4_indexIn := (tT 478 (by decide +kernel) rfl)
theorem fk_X4_14 : FK RX4 14 4 1 (.object "PencilForms$Pair") true := ⟨(RX4, TX4, 5), tyX4, ck4, by decide, rfl, rfl, rfl, by decide, Or.inl (tT 155 (by decide +kernel) rfl)⟩
theorem ml_X4_100 : ML RX4 100 yX1_takeFrom := Or.inl (tT 418 (by decide +kernel) rfl)
theorem mb_X1_takeFrom : MB yX1_takeFrom cX1_takeFrom 2 none 1 := ⟨(tT 349 (by decide +kernel) rfl), (tT 3 (by decide +kernel) rfl), by decide, by decide, by decide +kernel⟩
theorem mv_X1_takeFrom : MV yX1_takeFrom 1 := ⟨(tT 347 (by decide +kernel) rfl), (tT 348 (by decide +kernel) rfl), by decide, _, rfl, rfl⟩
theorem ml_X4_104 : ML RX4 104 yX1_flip := Or.inl (tT 419 (by decide +kernel) rfl)
theorem mb_X1_flip : MB yX1_flip cX1_flip 4 none 0 := ⟨(tT 422 (by decide +kernel) rfl), (tT 3 (by decide +kernel) rfl), by decide, by decide, by decide +kernel⟩
theorem mv_X1_flip : MV yX1_flip 1 := ⟨(tT 420 (by decide +kernel) rfl), (tT 421 (by decide +kernel) rfl), by decide, _, rfl, rfl⟩
theorem ml_X4_80 : ML RX4 80 yX4_flippedOf := Or.inl (tT 414 (by decide +kernel) rfl)
theorem mb_X4_flippedOf : MB yX4_flippedOf cX4_flippedOf 2 (some (.object "PencilForms$Pair")) 1 := ⟨(tT 417 (by decide +kernel) rfl), (tT 5 (by decide +kernel) rfl), by decide, by decide, by decide +kernel⟩
theorem mv_X4_flippedOf : MV yX4_flippedOf 4 := ⟨(tT 416 (by decide +kernel) rfl), (tS 16 (by decide +kernel) rfl), by decide, _, rfl, rfl⟩
theorem fk_X4_29 : FK RX4 29 4 3 (.array .int) true := ⟨(RX4, TX4, 5), tyX4, ck4, by decide, rfl, rfl, rfl, by decide, Or.inl (tT 157 (by decide +kernel) rfl)⟩
theorem ml_X4_90 : ML RX4 90 yX4_putIn := Or.inl (tT 659 (by decide +kernel) rfl)
theorem mb_X4_putIn : MB yX4_putIn cX4_putIn 3 (some .int) 3 := ⟨(tT 661 (by decide +kernel) rfl), (tT 5 (by decide +kernel) rfl), by decide, by decide, by decide +kernel⟩
theorem ms_X4_putIn : MS yX4_putIn := (tT 660 (by decide +kernel) rfl)
theorem ml_X4_84 : ML RX4 84 yJ7_fill_53178 := Or.inl (tT 658 (by decide +kernel) rfl)
theorem fk_X4_94 : FK RX4 94 1 2 .int false := ⟨(RX1, TX1, 4), tyX1, ck1, by decide, rfl, rfl, rfl, by decide, Or.inr ⟨"PencilForms", (tT 45 (by decide +kernel) rfl)⟩⟩
theorem fk_X5_10 : FK RX5 10 5 0 (.object "PencilForms$TextReader") true := ⟨(RX5, TX5, 10), tyX5, ck5, by decide, rfl, rfl, rfl, by decide, Or.inl (tT 170 (by decide +kernel) rfl)⟩
theorem ml_X5_52 : ML RX5 52 yX3_addByte := Or.inl (tT 205 (by decide +kernel) rfl)
theorem mb_X3_addByte : MB yX3_addByte cX3_addByte 2 (some .boolean) 1 := ⟨(tT 208 (by decide +kernel) rfl), (tT 2 (by decide +kernel) rfl), by decide, by decide, by decide +kernel⟩
theorem mv_X3_addByte : MV yX3_addByte 3 := ⟨(tT 206 (by decide +kernel) rfl), (tT 207 (by decide +kernel) rfl), by decide, _, rfl, rfl⟩
theorem fk_X5_56 : FK RX5 56 3 2 .int false := ⟨(RX3, TX3, 12), tyX3, ck3, by decide, rfl, rfl, rfl, by decide, Or.inr ⟨"PencilForms", (tT 66 (by decide +kernel) rfl)⟩⟩
theorem fk_X5_79 : FK RX5 79 3 7 .int false := ⟨(RX3, TX3, 12), tyX3, ck3, by decide, rfl, rfl, rfl, by decide, Or.inr ⟨"PencilForms", (tT 72 (by decide +kernel) rfl)⟩⟩
theorem fk_X5_27 : FK RX5 27 5 3 (.array .boolean) true := ⟨(RX5, TX5, 10), tyX5, ck5, by decide, rfl, rfl, rfl, by decide, Or.inl (tT 173 (by decide +kernel) rfl)⟩
theorem ml_X5_60 : ML RX5 60 yX3_readText := Or.inl (tT 217 (by decide +kernel) rfl)
theorem mb_X3_readText : MB yX3_readText cX3_readText 3 none 0 := ⟨(tT 220 (by decide +kernel) rfl), (tT 2 (by decide +kernel) rfl), by decide, by decide, by decide +kernel⟩
theorem mv_X3_readText : MV yX3_readText 3 := ⟨(tT 218 (by decide +kernel) rfl), (tT 219 (by decide +kernel) rfl), by decide, _, rfl, rfl⟩
theorem fk_X5_63 : FK RX5 63 3 10 .int false := ⟨(RX3, TX3, 12), tyX3, ck3, by decide, rfl, rfl, rfl, by decide, Or.inr ⟨"PencilForms", (tT 76 (by decide +kernel) rfl)⟩⟩
theorem fk_X5_66 : FK RX5 66 5 8 .int false := ⟨(RX5, TX5, 10), tyX5, ck5, by decide, rfl, rfl, rfl, by decide, Or.inl (tT 178 (by decide +kernel) rfl)⟩
theorem fk_X5_19 : FK RX5 19 5 1 (.object "PencilForms$Pair") true := ⟨(RX5, TX5, 10), tyX5, ck5, by decide, rfl, rfl, rfl, by decide, Or.inl (tT 171 (by decide +kernel) rfl)⟩
theorem fk_X5_72 : FK RX5 72 3 1 (.object "PencilForms$Pair") true := ⟨(RX3, TX3, 12), tyX3, ck3, by decide, rfl, rfl, rfl, by decide, Or.inr ⟨"PencilForms", (tT 64 (by decide +kernel) rfl)⟩⟩
theorem ml_X5_75 : ML RX5 75 yX1_takeFrom := Or.inl (tT 346 (by decide +kernel) rfl)
theorem fk_X5_69 : FK RX5 69 3 11 .int false := ⟨(RX3, TX3, 12), tyX3, ck3, by decide, rfl, rfl, rfl, by decide, Or.inr ⟨"PencilForms", (tT 78 (by decide +kernel) rfl)⟩⟩
theorem fk_X5_82 : FK RX5 82 1 2 .int false := ⟨(RX1, TX1, 4), tyX1, ck1, by decide, rfl, rfl, rfl, by decide, Or.inr ⟨"PencilForms", (tT 43 (by decide +kernel) rfl)⟩⟩
theorem fk_X5_85 : FK RX5 85 1 3 .int false := ⟨(RX1, TX1, 4), tyX1, ck1, by decide, rfl, rfl, rfl, by decide, Or.inr ⟨"PencilForms", (tT 48 (by decide +kernel) rfl)⟩⟩
theorem fk_X5_88 : FK RX5 88 1 1 .int false := ⟨(RX1, TX1, 4), tyX1, ck1, by decide, rfl, rfl, rfl, by decide, Or.inr ⟨"PencilForms", (tT 40 (by decide +kernel) rfl)⟩⟩
theorem fk_X5_41 : FK RX5 41 5 5 (.object "PencilForms$Underneath") true := ⟨(RX5, TX5, 10), tyX5, ck5, by decide, rfl, rfl, rfl, by decide, Or.inl (tT 175 (by decide +kernel) rfl)⟩
theorem ml_X5_91 : ML RX5 91 yX4_howManyCols := Or.inl (tT 361 (by decide +kernel) rfl)
theorem mb_X4_howManyCols : MB yX4_howManyCols cX4_howManyCols 2 (some .int) 1 := ⟨(tT 364 (by decide +kernel) rfl), (tT 5 (by decide +kernel) rfl), by decide, by decide, by decide +kernel⟩
theorem mv_X4_howManyCols : MV yX4_howManyCols 4 := ⟨(tT 362 (by decide +kernel) rfl), (tT 363 (by decide +kernel) rfl), by decide, _, rfl, rfl⟩
theorem ml_X5_95 : ML RX5 95 yX4_howManyRows := Or.inl (tT 410 (by decide +kernel) rfl)
theorem mb_X4_howManyRows : MB yX4_howManyRows cX4_howManyRows 2 (some .int) 1 := ⟨(tT 413 (by decide +kernel) rfl), (tT 5 (by decide +kernel) rfl), by decide, by decide, by decide +kernel⟩
theorem mv_X4_howManyRows : MV yX4_howManyRows 4 := ⟨(tT 411 (by decide +kernel) rfl), (tT 412 (by decide +kernel) rfl), by decide, _, rfl, rfl⟩
theorem ml_X5_98 : ML RX5 98 yX4_lengthsFrom := Or.inl (tT 427 (by decide +kernel) rfl)
theorem mb_X4_lengthsFrom : MB yX4_lengthsFrom cX4_lengthsFrom 7 (some .int) 3 := ⟨(tT 430 (by decide +kernel) rfl), (tT 5 (by decide +kernel) rfl), by decide, by decide, by decide +kernel⟩
theorem mv_X4_lengthsFrom : MV yX4_lengthsFrom 4 := ⟨(tT 428 (by decide +kernel) rfl), (tT 429 (by decide +kernel) rfl), by decide, _, rfl, rfl⟩
theorem ml_X5_102 : ML RX5 102 yX4_columnsOfIndices := Or.inl (tT 439 (by decide +kernel) rfl)
theorem mb_X4_columnsOfIndices : MB yX4_columnsOfIndices cX4_columnsOfIndices 4 (some .int) 1 := ⟨(tT 442 (by decide +kernel) rfl), (tT 5 (by decide +kernel) rfl), by decide, by decide, by decide +kernel⟩
theorem mv_X4_columnsOfIndices : MV yX4_columnsOfIndices 4 := ⟨(tT 440 (by decide +kernel) rfl), (tT 441 (by decide +kernel) rfl), by decide, _, rfl, rfl⟩
theorem ml_X5_105 : ML RX5 105 yX1_hasPlace := Or.inl (tT 447 (by decide +kernel) rfl)
theorem ml_X5_109 : ML RX5 109 yX1_valueAt := Or.inl (tT 448 (by decide +kernel) rfl)
theorem ml_X5_113 : ML RX5 113 yX5_isX := Or.inl (tT 453 (by decide +kernel) rfl)
theorem mb_X5_isX : MB yX5_isX cX5_isX 2 (some .boolean) 1 := ⟨(tT 456 (by decide +kernel) rfl), (tT 1 (by decide +kernel) rfl), by decide, by decide, by decide +kernel⟩
theorem mv_X5_isX : MV yX5_isX 5 := ⟨(tT 455 (by decide +kernel) rfl), (tS 19 (by decide +kernel) rfl), by decide, _, rfl, rfl⟩
theorem ml_X5_116 : ML RX5 116 yX4_rankAt := Or.inl (tT 457 (by decide +kernel) rfl)
theorem mb_X4_rankAt : MB yX4_rankAt cX4_rankAt 3 (some .int) 2 := ⟨(tT 460 (by decide +kernel) rfl), (tT 5 (by decide +kernel) rfl), by decide, by decide, by decide +kernel⟩
theorem mv_X4_rankAt : MV yX4_rankAt 4 := ⟨(tT 458 (by decide +kernel) rfl), (tT 459 (by decide +kernel) rfl), by decide, _, rfl, rfl⟩
theorem ml_X5_120 : ML RX5 120 yX5_isStepCount := Or.inl (tT 465 (by decide +kernel) rfl)
theorem mb_X5_isStepCount : MB yX5_isStepCount cX5_isStepCount 1 (some .boolean) 1 := ⟨(tT 467 (by decide +kernel) rfl), (tT 1 (by decide +kernel) rfl), by decide, by decide, by decide +kernel⟩
theorem ms_X5_isStepCount : MS yX5_isStepCount := (tT 466 (by decide +kernel) rfl)
theorem ml_X5_123 : ML RX5 123 yX4_nullsOf := Or.inl (tT 468 (by decide +kernel) rfl)
theorem ml_X5_126 : ML RX5 126 yX4_colIndex := Or.inl (tT 473 (by decide +kernel) rfl)
theorem mb_X4_colIndex : MB yX4_colIndex cX4_colIndex 3 (some .int) 2 := ⟨(tT 476 (by decide +kernel) rfl), (tT 5 (by decide +kernel) rfl), by decide, by decide, by decide +kernel⟩
theorem mv_X4_colIndex : MV yX4_colIndex 4 := ⟨(tT 474 (by decide +kernel) rfl), (tT 475 (by decide +kernel) rfl), by decide, _, rfl, rfl⟩
theorem ml_X5_129 : ML RX5 129 yX4_rowIndex := Or.inl (tT 484 (by decide +kernel) rfl)
theorem mb_X4_rowIndex : MB yX4_rowIndex cX4_rowIndex 3 (some .int) 2 := ⟨(tT 487 (by decide +kernel) rfl), (tT 5 (by decide +kernel) rfl), by decide, by decide, by decide +kernel⟩
theorem mv_X4_rowIndex : MV yX4_rowIndex 4 := ⟨(tT 485 (by decide +kernel) rfl), (tT 486 (by decide +kernel) rfl), by decide, _, rfl, rfl⟩
theorem ml_X5_132 : ML RX5 132 yX4_chainsAt := Or.inl (tT 492 (by decide +kernel) rfl)
theorem ml_X5_135 : ML RX5 135 yX4_lengthAt := Or.inl (tT 497 (by decide +kernel) rfl)
theorem mb_X4_lengthAt : MB yX4_lengthAt cX4_lengthAt 9 (some .int) 3 := ⟨(tT 500 (by decide +kernel) rfl), (tT 5 (by decide +kernel) rfl), by decide, by decide, by decide +kernel⟩
theorem mv_X4_lengthAt : MV yX4_lengthAt 4 := ⟨(tT 498 (by decide +kernel) rfl), (tT 499 (by decide +kernel) rfl), by decide, _, rfl, rfl⟩
theorem ml_X5_138 : ML RX5 138 yX5_isSide := Or.inl (tT 505 (by decide +kernel) rfl)
theorem ml_X5_144 : ML RX5 144 yX4_goersOf := Or.inl (tT 512 (by decide +kernel) rfl)
theorem mb_X4_goersOf : MB yX4_goersOf cX4_goersOf 3 (some .int) 2 := ⟨(tT 515 (by decide +kernel) rfl), (tT 5 (by decide +kernel) rfl), by decide, by decide, by decide +kernel⟩
theorem mv_X4_goersOf : MV yX4_goersOf 4 := ⟨(tT 513 (by decide +kernel) rfl), (tT 514 (by decide +kernel) rfl), by decide, _, rfl, rfl⟩
theorem ml_X5_141 : ML RX5 141 yX4_stepsOf := Or.inl (tT 508 (by decide +kernel) rfl)
theorem ml_X5_147 : ML RX5 147 yX4_takeColumn := Or.inl (tT 521 (by decide +kernel) rfl)
theorem mb_X4_takeColumn : MB yX4_takeColumn cX4_takeColumn 5 (some .boolean) 2 := ⟨(tT 524 (by decide +kernel) rfl), (tT 5 (by decide +kernel) rfl), by decide, by decide, by decide +kernel⟩
theorem mv_X4_takeColumn : MV yX4_takeColumn 4 := ⟨(tT 522 (by decide +kernel) rfl), (tT 523 (by decide +kernel) rfl), by decide, _, rfl, rfl⟩
theorem ml_X5_151 : ML RX5 151 yX4_columnCanGo := Or.inl (tT 525 (by decide +kernel) rfl)
theorem mb_X4_columnCanGo : MB yX4_columnCanGo cX4_columnCanGo 4 (some .boolean) 2 := ⟨(tT 528 (by decide +kernel) rfl), (tT 5 (by decide +kernel) rfl), by decide, by decide, by decide +kernel⟩
theorem mv_X4_columnCanGo : MV yX4_columnCanGo 4 := ⟨(tT 526 (by decide +kernel) rfl), (tT 527 (by decide +kernel) rfl), by decide, _, rfl, rfl⟩
theorem ml_X5_154 : ML RX5 154 yX5_maySet := Or.inl (tT 537 (by decide +kernel) rfl)
theorem mb_X5_maySet : MB yX5_maySet cX5_maySet 5 (some .boolean) 4 := ⟨(tT 540 (by decide +kernel) rfl), (tT 1 (by decide +kernel) rfl), by decide, by decide, by decide +kernel⟩
theorem mv_X5_maySet : MV yX5_maySet 5 := ⟨(tT 539 (by decide +kernel) rfl), (tS 20 (by decide +kernel) rfl), by decide, _, rfl, rfl⟩
theorem ml_X5_158 : ML RX5 158 yX1_putValue := Or.inl (tT 541 (by decide +kernel) rfl)
theorem ml_X5_162 : ML RX5 162 yX1_linesOf := Or.inl (tT 546 (by decide +kernel) rfl)
theorem ml_X5_166 : ML RX5 166 yX1_addLine := Or.inl (tT 550 (by decide +kernel) rfl)
theorem mb_X1_addLine : MB yX1_addLine cX1_addLine 2 none 1 := ⟨(tT 553 (by decide +kernel) rfl), (tT 3 (by decide +kernel) rfl), by decide, by decide, by decide +kernel⟩
theorem mv_X1_addLine : MV yX1_addLine 1 := ⟨(tT 551 (by decide +kernel) rfl), (tT 552 (by decide +kernel) rfl), by decide, _, rfl, rfl⟩
theorem ml_X5_170 : ML RX5 170 yX1_shape := Or.inl (tT 559 (by decide +kernel) rfl)
theorem mb_X1_shape : MB yX1_shape cX1_shape 1 (some .int) 0 := ⟨(tT 562 (by decide +kernel) rfl), (tT 3 (by decide +kernel) rfl), by decide, by decide, by decide +kernel⟩
theorem mv_X1_shape : MV yX1_shape 1 := ⟨(tT 560 (by decide +kernel) rfl), (tT 561 (by decide +kernel) rfl), by decide, _, rfl, rfl⟩
theorem ml_X5_174 : ML RX5 174 yX1_shrinkTo := Or.inl (tT 563 (by decide +kernel) rfl)
theorem mb_X1_shrinkTo : MB yX1_shrinkTo cX1_shrinkTo 6 none 2 := ⟨(tT 566 (by decide +kernel) rfl), (tT 3 (by decide +kernel) rfl), by decide, by decide, by decide +kernel⟩
theorem mv_X1_shrinkTo : MV yX1_shrinkTo 1 := ⟨(tT 564 (by decide +kernel) rfl), (tT 565 (by decide +kernel) rfl), by decide, _, rfl, rfl⟩
theorem ml_X5_184 : ML RX5 184 yX1_hasLine := Or.inl (tT 576 (by decide +kernel) rfl)
theorem mb_X1_hasLine : MB yX1_hasLine cX1_hasLine 3 (some .boolean) 2 := ⟨(tT 579 (by decide +kernel) rfl), (tT 3 (by decide +kernel) rfl), by decide, by decide, by decide +kernel⟩
theorem mv_X1_hasLine : MV yX1_hasLine 1 := ⟨(tT 577 (by decide +kernel) rfl), (tT 578 (by decide +kernel) rfl), by decide, _, rfl, rfl⟩
theorem ml_X5_188 : ML RX5 188 yX5_isFactor := Or.inl (tT 582 (by decide +kernel) rfl)
theorem mb_X5_isFactor : MB yX5_isFactor cX5_isFactor 2 (some .boolean) 1 := ⟨(tT 585 (by decide +kernel) rfl), (tT 1 (by decide +kernel) rfl), by decide, by decide, by decide +kernel⟩
theorem mv_X5_isFactor : MV yX5_isFactor 5 := ⟨(tT 584 (by decide +kernel) rfl), (tS 22 (by decide +kernel) rfl), by decide, _, rfl, rfl⟩
theorem ml_X5_178 : ML RX5 178 yX5_mayMix := Or.inl (tT 572 (by decide +kernel) rfl)
theorem mb_X5_mayMix : MB yX5_mayMix cX5_mayMix 5 (some .boolean) 4 := ⟨(tT 575 (by decide +kernel) rfl), (tT 1 (by decide +kernel) rfl), by decide, by decide, by decide +kernel⟩
theorem mv_X5_mayMix : MV yX5_mayMix 5 := ⟨(tT 574 (by decide +kernel) rfl), (tS 21 (by decide +kernel) rfl), by decide, _, rfl, rfl⟩
theorem ml_X5_181 : ML RX5 181 yX1_mixLines := Or.inl (tT 586 (by decide +kernel) rfl)
theorem mb_X1_mixLines : MB yX1_mixLines cX1_mixLines 8 none 4 := ⟨(tT 589 (by decide +kernel) rfl), (tT 3 (by decide +kernel) rfl), by decide, by decide, by decide +kernel⟩
theorem mv_X1_mixLines : MV yX1_mixLines 1 := ⟨(tT 587 (by decide +kernel) rfl), (tT 588 (by decide +kernel) rfl), by decide, _, rfl, rfl⟩
theorem ml_X5_191 : ML RX5 191 yX1_multiplyLine := Or.inl (tT 604 (by decide +kernel) rfl)
theorem mb_X1_multiplyLine : MB yX1_multiplyLine cX1_multiplyLine 6 none 3 := ⟨(tT 607 (by decide +kernel) rfl), (tT 3 (by decide +kernel) rfl), by decide, by decide, by decide +kernel⟩
theorem mv_X1_multiplyLine : MV yX1_multiplyLine 1 := ⟨(tT 605 (by decide +kernel) rfl), (tT 606 (by decide +kernel) rfl), by decide, _, rfl, rfl⟩
theorem ml_X5_195 : ML RX5 195 yX1_exchangeLines := Or.inl (tT 612 (by decide +kernel) rfl)
theorem mb_X1_exchangeLines : MB yX1_exchangeLines cX1_exchangeLines 7 none 3 := ⟨(tT 615 (by decide +kernel) rfl), (tT 3 (by decide +kernel) rfl), by decide, by decide, by decide +kernel⟩
theorem mv_X1_exchangeLines : MV yX1_exchangeLines 1 := ⟨(tT 613 (by decide +kernel) rfl), (tT 614 (by decide +kernel) rfl), by decide, _, rfl, rfl⟩
theorem ml_X5_211 : ML RX5 211 yX5_reduce := Or.inl (tT 625 (by decide +kernel) rfl)
theorem ml_X5_199 : ML RX5 199 yX5_mixByNumber := Or.inl (tT 621 (by decide +kernel) rfl)
theorem mb_X5_mixByNumber : MB yX5_mixByNumber cX5_mixByNumber 7 (some .boolean) 1 := ⟨(tT 624 (by decide +kernel) rfl), (tT 1 (by decide +kernel) rfl), by decide, by decide, by decide +kernel⟩
theorem mv_X5_mixByNumber : MV yX5_mixByNumber 5 := ⟨(tT 623 (by decide +kernel) rfl), (tS 25 (by decide +kernel) rfl), by decide, _, rfl, rfl⟩
theorem ml_X5_202 : ML RX5 202 yX1_exchangeTables := Or.inl (tT 630 (by decide +kernel) rfl)
theorem mb_X1_exchangeTables : MB yX1_exchangeTables cX1_exchangeTables 2 none 0 := ⟨(tT 633 (by decide +kernel) rfl), (tT 3 (by decide +kernel) rfl), by decide, by decide, by decide +kernel⟩
theorem mv_X1_exchangeTables : MV yX1_exchangeTables 1 := ⟨(tT 631 (by decide +kernel) rfl), (tT 632 (by decide +kernel) rfl), by decide, _, rfl, rfl⟩
theorem ml_X5_205 : ML RX5 205 yX1_flip := Or.inl (tT 634 (by decide +kernel) rfl)
theorem ml_X5_208 : ML RX5 208 yX1_shift := Or.inl (tT 635 (by decide +kernel) rfl)
theorem mb_X1_shift : MB yX1_shift cX1_shift 2 none 0 := ⟨(tT 638 (by decide +kernel) rfl), (tT 3 (by decide +kernel) rfl), by decide, by decide, by decide +kernel⟩
theorem mv_X1_shift : MV yX1_shift 1 := ⟨(tT 636 (by decide +kernel) rfl), (tT 637 (by decide +kernel) rfl), by decide, _, rfl, rfl⟩
theorem fk_X5_23 : FK RX5 23 5 2 (.array (.object "PencilForms$Pair")) true := ⟨(RX5, TX5, 10), tyX5, ck5, by decide, rfl, rfl, rfl, by decide, Or.inl (tT 172 (by decide +kernel) rfl)⟩
theorem ml_X5_215 : ML RX5 215 yX5_isImage := Or.inl (tT 643 (by decide +kernel) rfl)
theorem mb_X5_isImage : MB yX5_isImage cX5_isImage 1 (some .boolean) 1 := ⟨(tT 645 (by decide +kernel) rfl), (tT 1 (by decide +kernel) rfl), by decide, by decide, by decide +kernel⟩
theorem ms_X5_isImage : MS yX5_isImage := (tT 644 (by decide +kernel) rfl)
theorem fk_X5_45 : FK RX5 45 5 6 (.array .int) true := ⟨(RX5, TX5, 10), tyX5, ck5, by decide, rfl, rfl, rfl, by decide, Or.inl (tT 176 (by decide +kernel) rfl)⟩
theorem fk_X5_49 : FK RX5 49 5 7 (.array .int) true := ⟨(RX5, TX5, 10), tyX5, ck5, by decide, rfl, rfl, rfl, by decide, Or.inl (tT 177 (by decide +kernel) rfl)⟩
theorem ml_X5_218 : ML RX5 218 yX4_tellForm := Or.inl (tT 654 (by decide +kernel) rfl)
theorem mb_X4_tellForm : MB yX4_tellForm cX4_tellForm 6 none 2 := ⟨(tT 657 (by decide +kernel) rfl), (tT 5 (by decide +kernel) rfl), by decide, by decide, by decide +kernel⟩
theorem mv_X4_tellForm : MV yX4_tellForm 4 := ⟨(tT 655 (by decide +kernel) rfl), (tT 656 (by decide +kernel) rfl), by decide, _, rfl, rfl⟩
theorem ml_X5_222 : ML RX5 222 yX5_isSheet := Or.inl (tT 666 (by decide +kernel) rfl)
theorem mb_X5_isSheet : MB yX5_isSheet cX5_isSheet 1 (some .boolean) 1 := ⟨(tT 668 (by decide +kernel) rfl), (tT 1 (by decide +kernel) rfl), by decide, by decide, by decide +kernel⟩
theorem ms_X5_isSheet : MS yX5_isSheet := (tT 667 (by decide +kernel) rfl)
theorem ml_X5_225 : ML RX5 225 yX5_isLane := Or.inl (tT 669 (by decide +kernel) rfl)
theorem mb_X5_isLane : MB yX5_isLane cX5_isLane 1 (some .boolean) 1 := ⟨(tT 671 (by decide +kernel) rfl), (tT 1 (by decide +kernel) rfl), by decide, by decide, by decide +kernel⟩
theorem ms_X5_isLane : MS yX5_isLane := (tT 670 (by decide +kernel) rfl)
theorem fk_X5_33 : FK RX5 33 5 4 (.array (.object "PencilForms$Sheet")) true := ⟨(RX5, TX5, 10), tyX5, ck5, by decide, rfl, rfl, rfl, by decide, Or.inl (tT 174 (by decide +kernel) rfl)⟩
theorem ml_X5_228 : ML RX5 228 yX2_makeNew := Or.inl (tT 672 (by decide +kernel) rfl)
theorem mb_X2_makeNew : MB yX2_makeNew cX2_makeNew 3 none 2 := ⟨(tT 675 (by decide +kernel) rfl), (tT 4 (by decide +kernel) rfl), by decide, by decide, by decide +kernel⟩
theorem mv_X2_makeNew : MV yX2_makeNew 2 := ⟨(tT 673 (by decide +kernel) rfl), (tT 674 (by decide +kernel) rfl), by decide, _, rfl, rfl⟩
theorem ml_X5_231 : ML RX5 231 yX2_findAt := Or.inl (tT 682 (by decide +kernel) rfl)
theorem ml_X5_234 : ML RX5 234 yX2_putCell := Or.inl (tT 690 (by decide +kernel) rfl)
theorem mb_X2_putCell : MB yX2_putCell cX2_putCell 3 none 2 := ⟨(tT 693 (by decide +kernel) rfl), (tT 4 (by decide +kernel) rfl), by decide, by decide, by decide +kernel⟩
theorem mv_X2_putCell : MV yX2_putCell 2 := ⟨(tT 691 (by decide +kernel) rfl), (tT 692 (by decide +kernel) rfl), by decide, _, rfl, rfl⟩
theorem ml_X5_264 : ML RX5 264 yX2_cellAt := Or.inl (tT 707 (by decide +kernel) rfl)
theorem mb_X2_cellAt : MB yX2_cellAt cX2_cellAt 2 (some .int) 1 := ⟨(tT 710 (by decide +kernel) rfl), (tT 4 (by decide +kernel) rfl), by decide, by decide, by decide +kernel⟩
theorem mv_X2_cellAt : MV yX2_cellAt 2 := ⟨(tT 708 (by decide +kernel) rfl), (tT 709 (by decide +kernel) rfl), by decide, _, rfl, rfl⟩
theorem fk_X5_248 : FK RX5 248 5 9 .int false := ⟨(RX5, TX5, 10), tyX5, ck5, by decide, rfl, rfl, rfl, by decide, Or.inl (tT 179 (by decide +kernel) rfl)⟩
theorem ml_X5_244 : ML RX5 244 yX5_setFrom := Or.inl (tT 711 (by decide +kernel) rfl)
theorem mb_X5_setFrom : MB yX5_setFrom cX5_setFrom 3 none 2 := ⟨(tT 714 (by decide +kernel) rfl), (tT 1 (by decide +kernel) rfl), by decide, by decide, by decide +kernel⟩
theorem mv_X5_setFrom : MV yX5_setFrom 5 := ⟨(tT 713 (by decide +kernel) rfl), (tS 27 (by decide +kernel) rfl), by decide, _, rfl, rfl⟩
theorem ml_X5_237 : ML RX5 237 yX2_findFour := Or.inl (tT 699 (by decide +kernel) rfl)
theorem mb_X2_findFour : MB yX2_findFour cX2_findFour 3 (some .int) 2 := ⟨(tT 702 (by decide +kernel) rfl), (tT 4 (by decide +kernel) rfl), by decide, by decide, by decide +kernel⟩
theorem mv_X2_findFour : MV yX2_findFour 2 := ⟨(tT 700 (by decide +kernel) rfl), (tT 701 (by decide +kernel) rfl), by decide, _, rfl, rfl⟩
theorem ml_X5_240 : ML RX5 240 yX5_maySetFrom := Or.inl (tT 703 (by decide +kernel) rfl)
theorem mb_X5_maySetFrom : MB yX5_maySetFrom cX5_maySetFrom 3 (some .boolean) 2 := ⟨(tT 706 (by decide +kernel) rfl), (tT 1 (by decide +kernel) rfl), by decide, by decide, by decide +kernel⟩
theorem mv_X5_maySetFrom : MV yX5_maySetFrom 5 := ⟨(tT 705 (by decide +kernel) rfl), (tS 26 (by decide +kernel) rfl), by decide, _, rfl, rfl⟩
theorem ml_X5_251 : ML RX5 251 yX1_placesNotZero := Or.inl (tT 723 (by decide +kernel) rfl)
theorem mb_X1_placesNotZero : MB yX1_placesNotZero cX1_placesNotZero 3 (some .int) 0 := ⟨(tT 726 (by decide +kernel) rfl), (tT 3 (by decide +kernel) rfl), by decide, by decide, by decide +kernel⟩
theorem mv_X1_placesNotZero : MV yX1_placesNotZero 1 := ⟨(tT 724 (by decide +kernel) rfl), (tT 725 (by decide +kernel) rfl), by decide, _, rfl, rfl⟩
theorem ml_X5_254 : ML RX5 254 yX2_isNothing := Or.inl (tT 727 (by decide +kernel) rfl)
theorem fk_X5_258 : FK RX5 258 2 2 .int false := ⟨(RX2, TX2, 3), tyX2, ck2, by decide, rfl, rfl, rfl, by decide, Or.inr ⟨"PencilForms", (tT 117 (by decide +kernel) rfl)⟩⟩
theorem ml_X5_261 : ML RX5 261 yX1_sumOf := Or.inl (tT 728 (by decide +kernel) rfl)
theorem mb_X1_sumOf : MB yX1_sumOf cX1_sumOf 4 (some .int) 1 := ⟨(tT 731 (by decide +kernel) rfl), (tT 3 (by decide +kernel) rfl), by decide, by decide, by decide +kernel⟩
theorem mv_X1_sumOf : MV yX1_sumOf 1 := ⟨(tT 729 (by decide +kernel) rfl), (tT 730 (by decide +kernel) rfl), by decide, _, rfl, rfl⟩
theorem ml_X6_64 : ML RX6 64 yX6_in := Or.inl (tT 834 (by decide +kernel) rfl)
theorem mb_X6_in : MB yX6_in cX6_in 6 (some .boolean) 3 := ⟨(tT 836 (by decide +kernel) rfl), (tT 7 (by decide +kernel) rfl), by decide, by decide, by decide +kernel⟩
theorem ms_X6_in : MS yX6_in := (tT 835 (by decide +kernel) rfl)
theorem fk_X6_68 : FK RX6 68 6 7 .int false := ⟨(RX6, TX6, 30), tyX6, ck6, by decide, rfl, rfl, rfl, by decide, Or.inl (tT 745 (by decide +kernel) rfl)⟩
theorem fk_X6_23 : FK RX6 23 6 6 (.array .int) true := ⟨(RX6, TX6, 30), tyX6, ck6, by decide, rfl, rfl, rfl, by decide, Or.inl (tT 744 (by decide +kernel) rfl)⟩
theorem fk_X6_72 : FK RX6 72 6 12 .int false := ⟨(RX6, TX6, 30), tyX6, ck6, by decide, rfl, rfl, rfl, by decide, Or.inl (tT 750 (by decide +kernel) rfl)⟩
theorem fk_X6_75 : FK RX6 75 6 9 .int false := ⟨(RX6, TX6, 30), tyX6, ck6, by decide, rfl, rfl, rfl, by decide, Or.inl (tT 747 (by decide +kernel) rfl)⟩
theorem fk_X6_78 : FK RX6 78 6 13 .int false := ⟨(RX6, TX6, 30), tyX6, ck6, by decide, rfl, rfl, rfl, by decide, Or.inl (tT 751 (by decide +kernel) rfl)⟩
theorem fk_X6_81 : FK RX6 81 6 8 .int false := ⟨(RX6, TX6, 30), tyX6, ck6, by decide, rfl, rfl, rfl, by decide, Or.inl (tT 746 (by decide +kernel) rfl)⟩
theorem ml_X6_84 : ML RX6 84 yX6_byteAt := Or.inl (tT 849 (by decide +kernel) rfl)
theorem mb_X6_byteAt : MB yX6_byteAt cX6_byteAt 2 (some .int) 1 := ⟨(tT 852 (by decide +kernel) rfl), (tT 7 (by decide +kernel) rfl), by decide, by decide, by decide +kernel⟩
theorem mv_X6_byteAt : MV yX6_byteAt 6 := ⟨(tT 851 (by decide +kernel) rfl), (tS 29 (by decide +kernel) rfl), by decide, _, rfl, rfl⟩
theorem ml_X6_88 : ML RX6 88 yX6_is := Or.inl (tT 869 (by decide +kernel) rfl)
theorem mb_X6_is : MB yX6_is cX6_is 5 (some .boolean) 4 := ⟨(tT 872 (by decide +kernel) rfl), (tT 7 (by decide +kernel) rfl), by decide, by decide, by decide +kernel⟩
theorem mv_X6_is : MV yX6_is 6 := ⟨(tT 871 (by decide +kernel) rfl), (tS 33 (by decide +kernel) rfl), by decide, _, rfl, rfl⟩
theorem ml_X6_106 : ML RX6 106 yX6_requires := Or.inl (tT 857 (by decide +kernel) rfl)
theorem mb_X6_requires : MB yX6_requires cX6_requires 3 none 2 := ⟨(tT 860 (by decide +kernel) rfl), (tT 7 (by decide +kernel) rfl), by decide, by decide, by decide +kernel⟩
theorem mv_X6_requires : MV yX6_requires 6 := ⟨(tT 859 (by decide +kernel) rfl), (tS 30 (by decide +kernel) rfl), by decide, _, rfl, rfl⟩
theorem fk_X6_103 : FK RX6 103 6 11 .int false := ⟨(RX6, TX6, 30), tyX6, ck6, by decide, rfl, rfl, rfl, by decide, Or.inl (tT 749 (by decide +kernel) rfl)⟩
theorem fk_X6_92 : FK RX6 92 6 10 .int false := ⟨(RX6, TX6, 30), tyX6, ck6, by decide, rfl, rfl, rfl, by decide, Or.inl (tT 748 (by decide +kernel) rfl)⟩
theorem fk_X6_20 : FK RX6 20 6 3 (.array .int) true := ⟨(RX6, TX6, 30), tyX6, ck6, by decide, rfl, rfl, rfl, by decide, Or.inl (tT 741 (by decide +kernel) rfl)⟩
theorem ml_X6_110 : ML RX6 110 yX6_draws := Or.inl (tT 888 (by decide +kernel) rfl)
theorem mb_X6_draws : MB yX6_draws cX6_draws 5 none 4 := ⟨(tT 891 (by decide +kernel) rfl), (tT 7 (by decide +kernel) rfl), by decide, by decide, by decide +kernel⟩
theorem mv_X6_draws : MV yX6_draws 6 := ⟨(tT 890 (by decide +kernel) rfl), (tS 37 (by decide +kernel) rfl), by decide, _, rfl, rfl⟩
theorem ml_X6_114 : ML RX6 114 yX6_readNumber := Or.inl (tT 877 (by decide +kernel) rfl)
theorem mb_X6_readNumber : MB yX6_readNumber cX6_readNumber 3 (some .int) 2 := ⟨(tT 880 (by decide +kernel) rfl), (tT 7 (by decide +kernel) rfl), by decide, by decide, by decide +kernel⟩
theorem mv_X6_readNumber : MV yX6_readNumber 6 := ⟨(tT 879 (by decide +kernel) rfl), (tS 35 (by decide +kernel) rfl), by decide, _, rfl, rfl⟩
theorem ml_X6_128 : ML RX6 128 yX6_blockComes := Or.inl (tT 884 (by decide +kernel) rfl)
theorem mb_X6_blockComes : MB yX6_blockComes cX6_blockComes 9 none 3 := ⟨(tT 887 (by decide +kernel) rfl), (tT 7 (by decide +kernel) rfl), by decide, by decide, by decide +kernel⟩
theorem mv_X6_blockComes : MV yX6_blockComes 6 := ⟨(tT 886 (by decide +kernel) rfl), (tS 36 (by decide +kernel) rfl), by decide, _, rfl, rfl⟩
theorem ml_X6_122 : ML RX6 122 yX6_reads := Or.inl (tT 845 (by decide +kernel) rfl)
theorem mb_X6_reads : MB yX6_reads cX6_reads 2 none 0 := ⟨(tT 848 (by decide +kernel) rfl), (tT 7 (by decide +kernel) rfl), by decide, by decide, by decide +kernel⟩
theorem mv_X6_reads : MV yX6_reads 6 := ⟨(tT 847 (by decide +kernel) rfl), (tS 28 (by decide +kernel) rfl), by decide, _, rfl, rfl⟩
theorem fk_X6_125 : FK RX6 125 6 4 .int false := ⟨(RX6, TX6, 30), tyX6, ck6, by decide, rfl, rfl, rfl, by decide, Or.inl (tT 742 (by decide +kernel) rfl)⟩
theorem ml_X6_118 : ML RX6 118 yX6_isPrime := Or.inl (tT 881 (by decide +kernel) rfl)
theorem mb_X6_isPrime : MB yX6_isPrime cX6_isPrime 1 (some .boolean) 1 := ⟨(tT 883 (by decide +kernel) rfl), (tT 7 (by decide +kernel) rfl), by decide, by decide, by decide +kernel⟩
theorem ms_X6_isPrime : MS yX6_isPrime := (tT 882 (by decide +kernel) rfl)
theorem fk_X6_136 : FK RX6 136 6 5 .boolean false := ⟨(RX6, TX6, 30), tyX6, ck6, by decide, rfl, rfl, rfl, by decide, Or.inl (tT 743 (by decide +kernel) rfl)⟩
theorem ml_X6_140 : ML RX6 140 yX6_readLineOf := Or.inl (tT 873 (by decide +kernel) rfl)
theorem mb_X6_readLineOf : MB yX6_readLineOf cX6_readLineOf 4 none 1 := ⟨(tT 876 (by decide +kernel) rfl), (tT 7 (by decide +kernel) rfl), by decide, by decide, by decide +kernel⟩
theorem mv_X6_readLineOf : MV yX6_readLineOf 6 := ⟨(tT 875 (by decide +kernel) rfl), (tS 34 (by decide +kernel) rfl), by decide, _, rfl, rfl⟩
theorem ml_X6_132 : ML RX6 132 yX6_lineNow := Or.inl (tT 865 (by decide +kernel) rfl)
theorem mb_X6_lineNow : MB yX6_lineNow cX6_lineNow 1 (some .int) 0 := ⟨(tT 868 (by decide +kernel) rfl), (tT 7 (by decide +kernel) rfl), by decide, by decide, by decide +kernel⟩
theorem mv_X6_lineNow : MV yX6_lineNow 6 := ⟨(tT 867 (by decide +kernel) rfl), (tS 32 (by decide +kernel) rfl), by decide, _, rfl, rfl⟩
theorem fk_X6_16 : FK RX6 16 6 2 (.array .boolean) true := ⟨(RX6, TX6, 30), tyX6, ck6, by decide, rfl, rfl, rfl, by decide, Or.inl (tT 740 (by decide +kernel) rfl)⟩
theorem fk_X6_7 : FK RX6 7 6 0 (.array .int) true := ⟨(RX6, TX6, 30), tyX6, ck6, by decide, rfl, rfl, rfl, by decide, Or.inl (tT 738 (by decide +kernel) rfl)⟩
theorem ml_X6_144 : ML RX6 144 yX6_readLine := Or.inl (tT 861 (by decide +kernel) rfl)
theorem mb_X6_readLine : MB yX6_readLine cX6_readLine 2 none 0 := ⟨(tT 864 (by decide +kernel) rfl), (tT 7 (by decide +kernel) rfl), by decide, by decide, by decide +kernel⟩
theorem mv_X6_readLine : MV yX6_readLine 6 := ⟨(tT 863 (by decide +kernel) rfl), (tS 31 (by decide +kernel) rfl), by decide, _, rfl, rfl⟩
theorem fk_X6_147 : FK RX6 147 6 17 .boolean false := ⟨(RX6, TX6, 30), tyX6, ck6, by decide, rfl, rfl, rfl, by decide, Or.inl (tT 755 (by decide +kernel) rfl)⟩
theorem ml_X6_150 : ML RX6 150 yX6_of := Or.inl (tT 932 (by decide +kernel) rfl)
theorem mb_X6_of : MB yX6_of cX6_of 4 (some .int) 3 := ⟨(tT 935 (by decide +kernel) rfl), (tT 7 (by decide +kernel) rfl), by decide, by decide, by decide +kernel⟩
theorem mv_X6_of : MV yX6_of 6 := ⟨(tT 934 (by decide +kernel) rfl), (tS 46 (by decide +kernel) rfl), by decide, _, rfl, rfl⟩
theorem fk_X6_26 : FK RX6 26 6 14 (.array .int) true := ⟨(RX6, TX6, 30), tyX6, ck6, by decide, rfl, rfl, rfl, by decide, Or.inl (tT 752 (by decide +kernel) rfl)⟩
theorem ml_X6_154 : ML RX6 154 yX6_rowsNow := Or.inl (tT 916 (by decide +kernel) rfl)
theorem mb_X6_rowsNow : MB yX6_rowsNow cX6_rowsNow 1 (some .int) 0 := ⟨(tT 919 (by decide +kernel) rfl), (tT 7 (by decide +kernel) rfl), by decide, by decide, by decide +kernel⟩
theorem mv_X6_rowsNow : MV yX6_rowsNow 6 := ⟨(tT 918 (by decide +kernel) rfl), (tS 42 (by decide +kernel) rfl), by decide, _, rfl, rfl⟩
theorem fk_X6_157 : FK RX6 157 6 15 .int false := ⟨(RX6, TX6, 30), tyX6, ck6, by decide, rfl, rfl, rfl, by decide, Or.inl (tT 753 (by decide +kernel) rfl)⟩
theorem ml_X6_160 : ML RX6 160 yX6_columnsNow := Or.inl (tT 920 (by decide +kernel) rfl)
theorem mb_X6_columnsNow : MB yX6_columnsNow cX6_columnsNow 1 (some .int) 0 := ⟨(tT 923 (by decide +kernel) rfl), (tT 7 (by decide +kernel) rfl), by decide, by decide, by decide +kernel⟩
theorem mv_X6_columnsNow : MV yX6_columnsNow 6 := ⟨(tT 922 (by decide +kernel) rfl), (tS 43 (by decide +kernel) rfl), by decide, _, rfl, rfl⟩
theorem fk_X6_163 : FK RX6 163 6 16 .int false := ⟨(RX6, TX6, 30), tyX6, ck6, by decide, rfl, rfl, rfl, by decide, Or.inl (tT 754 (by decide +kernel) rfl)⟩
theorem ml_X6_166 : ML RX6 166 yX6_entry := Or.inl (tT 928 (by decide +kernel) rfl)
theorem mb_X6_entry : MB yX6_entry cX6_entry 4 (some .int) 3 := ⟨(tT 931 (by decide +kernel) rfl), (tT 7 (by decide +kernel) rfl), by decide, by decide, by decide +kernel⟩
theorem mv_X6_entry : MV yX6_entry 6 := ⟨(tT 930 (by decide +kernel) rfl), (tS 45 (by decide +kernel) rfl), by decide, _, rfl, rfl⟩
theorem ml_X6_169 : ML RX6 169 yX6_modulo := Or.inl (tT 936 (by decide +kernel) rfl)
theorem mb_X6_modulo : MB yX6_modulo cX6_modulo 2 (some .int) 1 := ⟨(tT 939 (by decide +kernel) rfl), (tT 7 (by decide +kernel) rfl), by decide, by decide, by decide +kernel⟩
theorem mv_X6_modulo : MV yX6_modulo 6 := ⟨(tT 938 (by decide +kernel) rfl), (tS 47 (by decide +kernel) rfl), by decide, _, rfl, rfl⟩
theorem ml_X6_182 : ML RX6 182 yX6_largeLoses := Or.inl (tT 960 (by decide +kernel) rfl)
theorem mb_X6_largeLoses : MB yX6_largeLoses cX6_largeLoses 5 none 3 := ⟨(tT 963 (by decide +kernel) rfl), (tT 7 (by decide +kernel) rfl), by decide, by decide, by decide +kernel⟩
theorem mv_X6_largeLoses : MV yX6_largeLoses 6 := ⟨(tT 962 (by decide +kernel) rfl), (tS 53 (by decide +kernel) rfl), by decide, _, rfl, rfl⟩
theorem ml_X6_172 : ML RX6 172 yX6_pivotFor := Or.inl (tT 948 (by decide +kernel) rfl)
theorem mb_X6_pivotFor : MB yX6_pivotFor cX6_pivotFor 5 (some .int) 2 := ⟨(tT 951 (by decide +kernel) rfl), (tT 7 (by decide +kernel) rfl), by decide, by decide, by decide +kernel⟩
theorem mv_X6_pivotFor : MV yX6_pivotFor 6 := ⟨(tT 950 (by decide +kernel) rfl), (tS 50 (by decide +kernel) rfl), by decide, _, rfl, rfl⟩
theorem ml_X6_175 : ML RX6 175 yX6_largeSwaps := Or.inl (tT 952 (by decide +kernel) rfl)
theorem mb_X6_largeSwaps : MB yX6_largeSwaps cX6_largeSwaps 5 none 2 := ⟨(tT 955 (by decide +kernel) rfl), (tT 7 (by decide +kernel) rfl), by decide, by decide, by decide +kernel⟩
theorem mv_X6_largeSwaps : MV yX6_largeSwaps 6 := ⟨(tT 954 (by decide +kernel) rfl), (tS 51 (by decide +kernel) rfl), by decide, _, rfl, rfl⟩
theorem ml_X6_179 : ML RX6 179 yX6_inverse := Or.inl (tT 956 (by decide +kernel) rfl)
theorem mb_X6_inverse : MB yX6_inverse cX6_inverse 3 (some .int) 1 := ⟨(tT 959 (by decide +kernel) rfl), (tT 7 (by decide +kernel) rfl), by decide, by decide, by decide +kernel⟩
theorem mv_X6_inverse : MV yX6_inverse 6 := ⟨(tT 958 (by decide +kernel) rfl), (tS 52 (by decide +kernel) rfl), by decide, _, rfl, rfl⟩
theorem ml_X6_185 : ML RX6 185 yX6_rankOf := Or.inl (tT 944 (by decide +kernel) rfl)
theorem mb_X6_rankOf : MB yX6_rankOf cX6_rankOf 7 (some .int) 1 := ⟨(tT 947 (by decide +kernel) rfl), (tT 7 (by decide +kernel) rfl), by decide, by decide, by decide +kernel⟩
theorem mv_X6_rankOf : MV yX6_rankOf 6 := ⟨(tT 946 (by decide +kernel) rfl), (tS 49 (by decide +kernel) rfl), by decide, _, rfl, rfl⟩
theorem ml_X6_191 : ML RX6 191 yX6_adds := Or.inl (tT 924 (by decide +kernel) rfl)
theorem mb_X6_adds : MB yX6_adds cX6_adds 8 none 4 := ⟨(tT 927 (by decide +kernel) rfl), (tT 7 (by decide +kernel) rfl), by decide, by decide, by decide +kernel⟩
theorem mv_X6_adds : MV yX6_adds 6 := ⟨(tT 926 (by decide +kernel) rfl), (tS 44 (by decide +kernel) rfl), by decide, _, rfl, rfl⟩
theorem ml_X6_194 : ML RX6 194 yX6_dimension := Or.inl (tT 940 (by decide +kernel) rfl)
theorem mb_X6_dimension : MB yX6_dimension cX6_dimension 1 (some .int) 0 := ⟨(tT 943 (by decide +kernel) rfl), (tT 7 (by decide +kernel) rfl), by decide, by decide, by decide +kernel⟩
theorem mv_X6_dimension : MV yX6_dimension 6 := ⟨(tT 942 (by decide +kernel) rfl), (tS 48 (by decide +kernel) rfl), by decide, _, rfl, rfl⟩
theorem ml_X6_188 : ML RX6 188 yX6_startsLarge := Or.inl (tT 912 (by decide +kernel) rfl)
theorem mb_X6_startsLarge : MB yX6_startsLarge cX6_startsLarge 4 none 2 := ⟨(tT 915 (by decide +kernel) rfl), (tT 7 (by decide +kernel) rfl), by decide, by decide, by decide +kernel⟩
theorem mv_X6_startsLarge : MV yX6_startsLarge 6 := ⟨(tT 914 (by decide +kernel) rfl), (tS 41 (by decide +kernel) rfl), by decide, _, rfl, rfl⟩
theorem ml_X6_197 : ML RX6 197 yX6_nullsOf := Or.inl (tT 908 (by decide +kernel) rfl)
theorem mb_X6_nullsOf : MB yX6_nullsOf cX6_nullsOf 3 (some .int) 1 := ⟨(tT 911 (by decide +kernel) rfl), (tT 7 (by decide +kernel) rfl), by decide, by decide, by decide +kernel⟩
theorem mv_X6_nullsOf : MV yX6_nullsOf 6 := ⟨(tT 910 (by decide +kernel) rfl), (tS 40 (by decide +kernel) rfl), by decide, _, rfl, rfl⟩
theorem fk_X6_29 : FK RX6 29 6 18 (.array .int) true := ⟨(RX6, TX6, 30), tyX6, ck6, by decide, rfl, rfl, rfl, by decide, Or.inl (tT 756 (by decide +kernel) rfl)⟩
theorem ml_X6_200 : ML RX6 200 yX6_findIndices := Or.inl (tT 904 (by decide +kernel) rfl)
theorem mb_X6_findIndices : MB yX6_findIndices cX6_findIndices 6 none 1 := ⟨(tT 907 (by decide +kernel) rfl), (tT 7 (by decide +kernel) rfl), by decide, by decide, by decide +kernel⟩
theorem mv_X6_findIndices : MV yX6_findIndices 6 := ⟨(tT 906 (by decide +kernel) rfl), (tS 39 (by decide +kernel) rfl), by decide, _, rfl, rfl⟩
theorem fk_X6_32 : FK RX6 32 6 19 (.array .int) true := ⟨(RX6, TX6, 30), tyX6, ck6, by decide, rfl, rfl, rfl, by decide, Or.inl (tT 757 (by decide +kernel) rfl)⟩
theorem ml_X6_204 : ML RX6 204 yX6_addsAt := Or.inl (tT 979 (by decide +kernel) rfl)
theorem mb_X6_addsAt : MB yX6_addsAt cX6_addsAt 5 none 3 := ⟨(tT 982 (by decide +kernel) rfl), (tT 7 (by decide +kernel) rfl), by decide, by decide, by decide +kernel⟩
theorem mv_X6_addsAt : MV yX6_addsAt 6 := ⟨(tT 981 (by decide +kernel) rfl), (tS 57 (by decide +kernel) rfl), by decide, _, rfl, rfl⟩
theorem ml_X6_211 : ML RX6 211 yX6_chainsOf := Or.inl (tT 975 (by decide +kernel) rfl)
theorem mb_X6_chainsOf : MB yX6_chainsOf cX6_chainsOf 5 (some .int) 2 := ⟨(tT 978 (by decide +kernel) rfl), (tT 7 (by decide +kernel) rfl), by decide, by decide, by decide +kernel⟩
theorem mv_X6_chainsOf : MV yX6_chainsOf 6 := ⟨(tT 977 (by decide +kernel) rfl), (tS 56 (by decide +kernel) rfl), by decide, _, rfl, rfl⟩
theorem fk_X6_35 : FK RX6 35 6 20 (.array .int) true := ⟨(RX6, TX6, 30), tyX6, ck6, by decide, rfl, rfl, rfl, by decide, Or.inl (tT 758 (by decide +kernel) rfl)⟩
theorem ml_X6_207 : ML RX6 207 yX6_manyOf := Or.inl (tT 964 (by decide +kernel) rfl)
theorem mb_X6_manyOf : MB yX6_manyOf cX6_manyOf 3 (some .int) 1 := ⟨(tT 966 (by decide +kernel) rfl), (tT 7 (by decide +kernel) rfl), by decide, by decide, by decide +kernel⟩
theorem ms_X6_manyOf : MS yX6_manyOf := (tT 965 (by decide +kernel) rfl)
theorem ml_X6_214 : ML RX6 214 yX6_flag := Or.inl (tT 1039 (by decide +kernel) rfl)
theorem mb_X6_flag : MB yX6_flag cX6_flag 1 (some .int) 1 := ⟨(tT 1041 (by decide +kernel) rfl), (tT 7 (by decide +kernel) rfl), by decide, by decide, by decide +kernel⟩
theorem ms_X6_flag : MS yX6_flag := (tT 1040 (by decide +kernel) rfl)
theorem ml_X6_218 : ML RX6 218 yX6_findLong := Or.inl (tT 971 (by decide +kernel) rfl)
theorem mb_X6_findLong : MB yX6_findLong cX6_findLong 6 none 1 := ⟨(tT 974 (by decide +kernel) rfl), (tT 7 (by decide +kernel) rfl), by decide, by decide, by decide +kernel⟩
theorem mv_X6_findLong : MV yX6_findLong 6 := ⟨(tT 973 (by decide +kernel) rfl), (tS 55 (by decide +kernel) rfl), by decide, _, rfl, rfl⟩
theorem ml_X6_221 : ML RX6 221 yX6_lengthsAt := Or.inl (tT 967 (by decide +kernel) rfl)
theorem mb_X6_lengthsAt : MB yX6_lengthsAt cX6_lengthsAt 2 (some .int) 1 := ⟨(tT 970 (by decide +kernel) rfl), (tT 7 (by decide +kernel) rfl), by decide, by decide, by decide +kernel⟩
theorem mv_X6_lengthsAt : MV yX6_lengthsAt 6 := ⟨(tT 969 (by decide +kernel) rfl), (tS 54 (by decide +kernel) rfl), by decide, _, rfl, rfl⟩
theorem ml_X6_224 : ML RX6 224 yX6_lengthsBut := Or.inl (tT 983 (by decide +kernel) rfl)
theorem mb_X6_lengthsBut : MB yX6_lengthsBut cX6_lengthsBut 3 (some .int) 0 := ⟨(tT 986 (by decide +kernel) rfl), (tT 7 (by decide +kernel) rfl), by decide, by decide, by decide +kernel⟩
theorem mv_X6_lengthsBut : MV yX6_lengthsBut 6 := ⟨(tT 985 (by decide +kernel) rfl), (tS 58 (by decide +kernel) rfl), by decide, _, rfl, rfl⟩
theorem ml_X6_227 : ML RX6 227 yX6_findAllIndices := Or.inl (tT 900 (by decide +kernel) rfl)
theorem mb_X6_findAllIndices : MB yX6_findAllIndices cX6_findAllIndices 1 none 0 := ⟨(tT 903 (by decide +kernel) rfl), (tT 7 (by decide +kernel) rfl), by decide, by decide, by decide +kernel⟩
theorem mv_X6_findAllIndices : MV yX6_findAllIndices 6 := ⟨(tT 902 (by decide +kernel) rfl), (tS 38 (by decide +kernel) rfl), by decide, _, rfl, rfl⟩
theorem ml_X6_230 : ML RX6 230 yX6_rest := Or.inl (tT 987 (by decide +kernel) rfl)
theorem mb_X6_rest : MB yX6_rest cX6_rest 3 (some .int) 0 := ⟨(tT 990 (by decide +kernel) rfl), (tT 7 (by decide +kernel) rfl), by decide, by decide, by decide +kernel⟩
theorem mv_X6_rest : MV yX6_rest 6 := ⟨(tT 989 (by decide +kernel) rfl), (tS 59 (by decide +kernel) rfl), by decide, _, rfl, rfl⟩
theorem ml_X6_233 : ML RX6 233 yX6_isTable := Or.inl (tT 995 (by decide +kernel) rfl)
theorem mb_X6_isTable : MB yX6_isTable cX6_isTable 2 (some .boolean) 1 := ⟨(tT 998 (by decide +kernel) rfl), (tT 7 (by decide +kernel) rfl), by decide, by decide, by decide +kernel⟩
theorem mv_X6_isTable : MV yX6_isTable 6 := ⟨(tT 997 (by decide +kernel) rfl), (tS 60 (by decide +kernel) rfl), by decide, _, rfl, rfl⟩
theorem ml_X6_236 : ML RX6 236 yX6_isPlace := Or.inl (tT 999 (by decide +kernel) rfl)
theorem mb_X6_isPlace : MB yX6_isPlace cX6_isPlace 3 (some .boolean) 2 := ⟨(tT 1002 (by decide +kernel) rfl), (tT 7 (by decide +kernel) rfl), by decide, by decide, by decide +kernel⟩
theorem mv_X6_isPlace : MV yX6_isPlace 6 := ⟨(tT 1001 (by decide +kernel) rfl), (tS 61 (by decide +kernel) rfl), by decide, _, rfl, rfl⟩
theorem ml_X6_240 : ML RX6 240 yX6_isX := Or.inl (tT 1007 (by decide +kernel) rfl)
theorem mb_X6_isX : MB yX6_isX cX6_isX 2 (some .boolean) 1 := ⟨(tT 1010 (by decide +kernel) rfl), (tT 7 (by decide +kernel) rfl), by decide, by decide, by decide +kernel⟩
theorem mv_X6_isX : MV yX6_isX 6 := ⟨(tT 1009 (by decide +kernel) rfl), (tS 62 (by decide +kernel) rfl), by decide, _, rfl, rfl⟩
theorem ml_X6_245 : ML RX6 245 yX6_indexAt := Or.inl (tT 1020 (by decide +kernel) rfl)
theorem mb_X6_indexAt : MB yX6_indexAt cX6_indexAt 4 (some .int) 2 := ⟨(tT 1022 (by decide +kernel) rfl), (tT 7 (by decide +kernel) rfl), by decide, by decide, by decide +kernel⟩
theorem ms_X6_indexAt : MS yX6_indexAt := (tT 1021 (by decide +kernel) rfl)
theorem ml_X6_249 : ML RX6 249 yX6_lengthAt := Or.inl (tT 1035 (by decide +kernel) rfl)
theorem mb_X6_lengthAt : MB yX6_lengthAt cX6_lengthAt 4 (some .int) 1 := ⟨(tT 1038 (by decide +kernel) rfl), (tT 7 (by decide +kernel) rfl), by decide, by decide, by decide +kernel⟩
theorem mv_X6_lengthAt : MV yX6_lengthAt 6 := ⟨(tT 1037 (by decide +kernel) rfl), (tS 63 (by decide +kernel) rfl), by decide, _, rfl, rfl⟩
theorem ml_X6_252 : ML RX6 252 yX6_isPart := Or.inl (tT 1046 (by decide +kernel) rfl)
theorem mb_X6_isPart : MB yX6_isPart cX6_isPart 1 (some .boolean) 1 := ⟨(tT 1048 (by decide +kernel) rfl), (tT 7 (by decide +kernel) rfl), by decide, by decide, by decide +kernel⟩
theorem ms_X6_isPart : MS yX6_isPart := (tT 1047 (by decide +kernel) rfl)
theorem ml_X6_255 : ML RX6 255 yX6_startsSteps := Or.inl (tT 1049 (by decide +kernel) rfl)
theorem mb_X6_startsSteps : MB yX6_startsSteps cX6_startsSteps 5 none 2 := ⟨(tT 1052 (by decide +kernel) rfl), (tT 7 (by decide +kernel) rfl), by decide, by decide, by decide +kernel⟩
theorem mv_X6_startsSteps : MV yX6_startsSteps 6 := ⟨(tT 1051 (by decide +kernel) rfl), (tS 64 (by decide +kernel) rfl), by decide, _, rfl, rfl⟩
theorem fk_X6_38 : FK RX6 38 6 21 (.array .int) true := ⟨(RX6, TX6, 30), tyX6, ck6, by decide, rfl, rfl, rfl, by decide, Or.inl (tT 759 (by decide +kernel) rfl)⟩
theorem ml_X6_262 : ML RX6 262 yX6_rankFrom := Or.inl (tT 1061 (by decide +kernel) rfl)
theorem mb_X6_rankFrom : MB yX6_rankFrom cX6_rankFrom 4 (some .boolean) 1 := ⟨(tT 1064 (by decide +kernel) rfl), (tT 7 (by decide +kernel) rfl), by decide, by decide, by decide +kernel⟩
theorem mv_X6_rankFrom : MV yX6_rankFrom 6 := ⟨(tT 1063 (by decide +kernel) rfl), (tS 66 (by decide +kernel) rfl), by decide, _, rfl, rfl⟩
theorem ml_X6_259 : ML RX6 259 yX6_isColumn := Or.inl (tT 1057 (by decide +kernel) rfl)
theorem mb_X6_isColumn : MB yX6_isColumn cX6_isColumn 5 (some .boolean) 1 := ⟨(tT 1060 (by decide +kernel) rfl), (tT 7 (by decide +kernel) rfl), by decide, by decide, by decide +kernel⟩
theorem mv_X6_isColumn : MV yX6_isColumn 6 := ⟨(tT 1059 (by decide +kernel) rfl), (tS 65 (by decide +kernel) rfl), by decide, _, rfl, rfl⟩
theorem ml_X6_265 : ML RX6 265 yX6_becomes := Or.inl (tT 1069 (by decide +kernel) rfl)
theorem mb_X6_becomes : MB yX6_becomes cX6_becomes 5 none 4 := ⟨(tT 1072 (by decide +kernel) rfl), (tT 7 (by decide +kernel) rfl), by decide, by decide, by decide +kernel⟩
theorem mv_X6_becomes : MV yX6_becomes 6 := ⟨(tT 1071 (by decide +kernel) rfl), (tS 67 (by decide +kernel) rfl), by decide, _, rfl, rfl⟩
theorem ml_X6_268 : ML RX6 268 yX6_shape := Or.inl (tT 1081 (by decide +kernel) rfl)
theorem mb_X6_shape : MB yX6_shape cX6_shape 1 (some .int) 0 := ⟨(tT 1084 (by decide +kernel) rfl), (tT 7 (by decide +kernel) rfl), by decide, by decide, by decide +kernel⟩
theorem mv_X6_shape : MV yX6_shape 6 := ⟨(tT 1083 (by decide +kernel) rfl), (tS 68 (by decide +kernel) rfl), by decide, _, rfl, rfl⟩
theorem ml_X6_277 : ML RX6 277 yX6_lineOf := Or.inl (tT 1097 (by decide +kernel) rfl)
theorem mb_X6_lineOf : MB yX6_lineOf cX6_lineOf 5 (some .int) 4 := ⟨(tT 1100 (by decide +kernel) rfl), (tT 7 (by decide +kernel) rfl), by decide, by decide, by decide +kernel⟩
theorem mv_X6_lineOf : MV yX6_lineOf 6 := ⟨(tT 1099 (by decide +kernel) rfl), (tS 71 (by decide +kernel) rfl), by decide, _, rfl, rfl⟩
theorem ml_X6_281 : ML RX6 281 yX6_lineBecomes := Or.inl (tT 1101 (by decide +kernel) rfl)
theorem mb_X6_lineBecomes : MB yX6_lineBecomes cX6_lineBecomes 6 none 5 := ⟨(tT 1104 (by decide +kernel) rfl), (tT 7 (by decide +kernel) rfl), by decide, by decide, by decide +kernel⟩
theorem mv_X6_lineBecomes : MV yX6_lineBecomes 6 := ⟨(tT 1103 (by decide +kernel) rfl), (tS 72 (by decide +kernel) rfl), by decide, _, rfl, rfl⟩
theorem ml_X6_271 : ML RX6 271 yX6_isLine := Or.inl (tT 1089 (by decide +kernel) rfl)
theorem mb_X6_isLine : MB yX6_isLine cX6_isLine 3 (some .boolean) 2 := ⟨(tT 1092 (by decide +kernel) rfl), (tT 7 (by decide +kernel) rfl), by decide, by decide, by decide +kernel⟩
theorem mv_X6_isLine : MV yX6_isLine 6 := ⟨(tT 1091 (by decide +kernel) rfl), (tS 69 (by decide +kernel) rfl), by decide, _, rfl, rfl⟩
theorem ml_X6_274 : ML RX6 274 yX6_isTimes := Or.inl (tT 1093 (by decide +kernel) rfl)
theorem mb_X6_isTimes : MB yX6_isTimes cX6_isTimes 2 (some .boolean) 1 := ⟨(tT 1096 (by decide +kernel) rfl), (tT 7 (by decide +kernel) rfl), by decide, by decide, by decide +kernel⟩
theorem mv_X6_isTimes : MV yX6_isTimes 6 := ⟨(tT 1095 (by decide +kernel) rfl), (tS 70 (by decide +kernel) rfl), by decide, _, rfl, rfl⟩
theorem ml_X6_288 : ML RX6 288 yX6_mix := Or.inl (tT 1119 (by decide +kernel) rfl)
theorem mb_X6_mix : MB yX6_mix cX6_mix 7 (some .int) 4 := ⟨(tT 1088 (by decide +kernel) rfl), (tT 7 (by decide +kernel) rfl), by decide, by decide, by decide +kernel⟩
theorem mv_X6_mix : MV yX6_mix 6 := ⟨(tT 1086 (by decide +kernel) rfl), (tT 1087 (by decide +kernel) rfl), by decide, _, rfl, rfl⟩
theorem fk_X6_41 : FK RX6 41 6 22 (.array .int) true := ⟨(RX6, TX6, 30), tyX6, ck6, by decide, rfl, rfl, rfl, by decide, Or.inl (tT 760 (by decide +kernel) rfl)⟩
theorem ml_X6_293 : ML RX6 293 yX6_sets1 := Or.inl (tT 1125 (by decide +kernel) rfl)
theorem mb_X6_sets1 : MB yX6_sets1 cX6_sets1 5 none 4 := ⟨(tT 1128 (by decide +kernel) rfl), (tT 7 (by decide +kernel) rfl), by decide, by decide, by decide +kernel⟩
theorem mv_X6_sets1 : MV yX6_sets1 6 := ⟨(tT 1127 (by decide +kernel) rfl), (tS 73 (by decide +kernel) rfl), by decide, _, rfl, rfl⟩
theorem fk_X6_13 : FK RX6 13 6 1 (.array .int) true := ⟨(RX6, TX6, 30), tyX6, ck6, by decide, rfl, rfl, rfl, by decide, Or.inl (tT 739 (by decide +kernel) rfl)⟩
theorem ml_X6_296 : ML RX6 296 yX6_takes := Or.inl (tT 1137 (by decide +kernel) rfl)
theorem mb_X6_takes : MB yX6_takes cX6_takes 3 none 1 := ⟨(tT 1140 (by decide +kernel) rfl), (tT 7 (by decide +kernel) rfl), by decide, by decide, by decide +kernel⟩
theorem mv_X6_takes : MV yX6_takes 6 := ⟨(tT 1139 (by decide +kernel) rfl), (tS 74 (by decide +kernel) rfl), by decide, _, rfl, rfl⟩
theorem fk_X6_44 : FK RX6 44 6 23 (.array .int) true := ⟨(RX6, TX6, 30), tyX6, ck6, by decide, rfl, rfl, rfl, by decide, Or.inl (tT 761 (by decide +kernel) rfl)⟩
theorem fk_X6_47 : FK RX6 47 6 24 (.array .int) true := ⟨(RX6, TX6, 30), tyX6, ck6, by decide, rfl, rfl, rfl, by decide, Or.inl (tT 762 (by decide +kernel) rfl)⟩
theorem ml_X6_299 : ML RX6 299 yX6_findForm := Or.inl (tT 1145 (by decide +kernel) rfl)
theorem mb_X6_findForm : MB yX6_findForm cX6_findForm 4 none 1 := ⟨(tT 1148 (by decide +kernel) rfl), (tT 7 (by decide +kernel) rfl), by decide, by decide, by decide +kernel⟩
theorem mv_X6_findForm : MV yX6_findForm 6 := ⟨(tT 1147 (by decide +kernel) rfl), (tS 75 (by decide +kernel) rfl), by decide, _, rfl, rfl⟩
theorem fk_X6_56 : FK RX6 56 6 27 (.array .int) true := ⟨(RX6, TX6, 30), tyX6, ck6, by decide, rfl, rfl, rfl, by decide, Or.inl (tT 765 (by decide +kernel) rfl)⟩
theorem ml_X6_304 : ML RX6 304 yX6_isSheet := Or.inl (tT 1153 (by decide +kernel) rfl)
theorem mb_X6_isSheet : MB yX6_isSheet cX6_isSheet 2 (some .boolean) 2 := ⟨(tT 1155 (by decide +kernel) rfl), (tT 7 (by decide +kernel) rfl), by decide, by decide, by decide +kernel⟩
theorem ms_X6_isSheet : MS yX6_isSheet := (tT 1154 (by decide +kernel) rfl)
theorem fk_X6_50 : FK RX6 50 6 25 (.array .int) true := ⟨(RX6, TX6, 30), tyX6, ck6, by decide, rfl, rfl, rfl, by decide, Or.inl (tT 763 (by decide +kernel) rfl)⟩
theorem fk_X6_53 : FK RX6 53 6 26 (.array .int) true := ⟨(RX6, TX6, 30), tyX6, ck6, by decide, rfl, rfl, rfl, by decide, Or.inl (tT 764 (by decide +kernel) rfl)⟩
theorem fk_X6_312 : FK RX6 312 6 28 .int false := ⟨(RX6, TX6, 30), tyX6, ck6, by decide, rfl, rfl, rfl, by decide, Or.inl (tT 766 (by decide +kernel) rfl)⟩
theorem fk_X6_59 : FK RX6 59 6 29 (.array .int) true := ⟨(RX6, TX6, 30), tyX6, ck6, by decide, rfl, rfl, rfl, by decide, Or.inl (tT 767 (by decide +kernel) rfl)⟩
theorem ml_X6_309 : ML RX6 309 yX6_set := Or.inl (tT 1166 (by decide +kernel) rfl)
theorem mb_X6_set : MB yX6_set cX6_set 6 (some .int) 4 := ⟨(tT 1068 (by decide +kernel) rfl), (tT 7 (by decide +kernel) rfl), by decide, by decide, by decide +kernel⟩
theorem mv_X6_set : MV yX6_set 6 := ⟨(tT 1066 (by decide +kernel) rfl), (tT 1067 (by decide +kernel) rfl), by decide, _, rfl, rfl⟩
theorem ml_X6_315 : ML RX6 315 yX6_sumOf := Or.inl (tT 1175 (by decide +kernel) rfl)
theorem mb_X6_sumOf : MB yX6_sumOf cX6_sumOf 6 (some .int) 2 := ⟨(tT 1178 (by decide +kernel) rfl), (tT 7 (by decide +kernel) rfl), by decide, by decide, by decide +kernel⟩
theorem mv_X6_sumOf : MV yX6_sumOf 6 := ⟨(tT 1177 (by decide +kernel) rfl), (tS 76 (by decide +kernel) rfl), by decide, _, rfl, rfl⟩
end
section
theorem zz_last : True := trivial
end
