-- ===== PART A: goes FIRST, ahead of the names: the tables' words, and 'selects' of the private methods out of them =====
/-- a private method of a class that the tables say can be made, by its rows of tables_1 -/
def lw_okq (q : MethodName × Nat) : Prop := (q.1.cls ≠ "java/lang/invoke/MethodHandle" ∧ q.1.cls ≠ "java/lang/invoke/VarHandle") ∧ Cond.instantiable q.1.cls q.2 ∈ tables_1 ∧ Cond.privateMethod q.1 ∈ tables_1 ∧ Cond.instanceMethod q.1 ∈ tables_1
theorem lw_p0 : lw_okq (⟨"RowsColumns$Teller", "takeLine", "()Z"⟩, 10) := ⟨⟨by decide +kernel, by decide +kernel⟩, List.mem_of_getElem? (i := 94) (by decide +kernel), List.mem_of_getElem? (i := 308) (by decide +kernel), List.mem_of_getElem? (i := 309) (by decide +kernel)⟩
theorem lw_p1 : lw_okq (⟨"RowsColumns$Teller", "step", "()V"⟩, 10) := ⟨⟨by decide +kernel, by decide +kernel⟩, List.mem_of_getElem? (i := 94) (by decide +kernel), List.mem_of_getElem? (i := 312) (by decide +kernel), List.mem_of_getElem? (i := 313) (by decide +kernel)⟩
theorem lw_p2 : lw_okq (⟨"RowsColumns$Teller", "stepNumber", "()V"⟩, 10) := ⟨⟨by decide +kernel, by decide +kernel⟩, List.mem_of_getElem? (i := 94) (by decide +kernel), List.mem_of_getElem? (i := 326) (by decide +kernel), List.mem_of_getElem? (i := 327) (by decide +kernel)⟩
theorem lw_p3 : lw_okq (⟨"RowsColumns$Teller", "refuse", "(I)Z"⟩, 10) := ⟨⟨by decide +kernel, by decide +kernel⟩, List.mem_of_getElem? (i := 94) (by decide +kernel), List.mem_of_getElem? (i := 330) (by decide +kernel), List.mem_of_getElem? (i := 331) (by decide +kernel)⟩
theorem lw_p4 : lw_okq (⟨"RowsColumns$Teller", "isNamed", "(Ljava/lang/String;)Z"⟩, 10) := ⟨⟨by decide +kernel, by decide +kernel⟩, List.mem_of_getElem? (i := 94) (by decide +kernel), List.mem_of_getElem? (i := 335) (by decide +kernel), List.mem_of_getElem? (i := 336) (by decide +kernel)⟩
theorem lw_p5 : lw_okq (⟨"RowsColumns$Teller", "takeRows", "(LRowsColumns$Cloth;)Z"⟩, 10) := ⟨⟨by decide +kernel, by decide +kernel⟩, List.mem_of_getElem? (i := 94) (by decide +kernel), List.mem_of_getElem? (i := 387) (by decide +kernel), List.mem_of_getElem? (i := 388) (by decide +kernel)⟩
theorem lw_p6 : lw_okq (⟨"RowsColumns$Teller", "takeRow", "(LRowsColumns$Cloth;)Z"⟩, 10) := ⟨⟨by decide +kernel, by decide +kernel⟩, List.mem_of_getElem? (i := 94) (by decide +kernel), List.mem_of_getElem? (i := 391) (by decide +kernel), List.mem_of_getElem? (i := 392) (by decide +kernel)⟩
theorem lw_p7 : lw_okq (⟨"RowsColumns$Teller", "isRow", "()Z"⟩, 10) := ⟨⟨by decide +kernel, by decide +kernel⟩, List.mem_of_getElem? (i := 94) (by decide +kernel), List.mem_of_getElem? (i := 395) (by decide +kernel), List.mem_of_getElem? (i := 396) (by decide +kernel)⟩
theorem lw_p8 : lw_okq (⟨"RowsColumns$Teller", "takeDay", "()Z"⟩, 10) := ⟨⟨by decide +kernel, by decide +kernel⟩, List.mem_of_getElem? (i := 94) (by decide +kernel), List.mem_of_getElem? (i := 401) (by decide +kernel), List.mem_of_getElem? (i := 402) (by decide +kernel)⟩
theorem lw_p9 : lw_okq (⟨"RowsColumns$Teller", "kindNamed", "()I"⟩, 10) := ⟨⟨by decide +kernel, by decide +kernel⟩, List.mem_of_getElem? (i := 94) (by decide +kernel), List.mem_of_getElem? (i := 409) (by decide +kernel), List.mem_of_getElem? (i := 410) (by decide +kernel)⟩
theorem lw_p10 : lw_okq (⟨"RowsColumns$Teller", "takeNumber", "(I)Z"⟩, 10) := ⟨⟨by decide +kernel, by decide +kernel⟩, List.mem_of_getElem? (i := 94) (by decide +kernel), List.mem_of_getElem? (i := 416) (by decide +kernel), List.mem_of_getElem? (i := 417) (by decide +kernel)⟩
theorem lw_p11 : lw_okq (⟨"RowsColumns$Teller", "judgeWhole", "()V"⟩, 10) := ⟨⟨by decide +kernel, by decide +kernel⟩, List.mem_of_getElem? (i := 94) (by decide +kernel), List.mem_of_getElem? (i := 428) (by decide +kernel), List.mem_of_getElem? (i := 429) (by decide +kernel)⟩
theorem lw_p12 : lw_okq (⟨"RowsColumns$Cloth", "columnSquares", "(I)J"⟩, 4) := ⟨⟨by decide +kernel, by decide +kernel⟩, List.mem_of_getElem? (i := 27) (by decide +kernel), List.mem_of_getElem? (i := 524) (by decide +kernel), List.mem_of_getElem? (i := 525) (by decide +kernel)⟩
theorem lw_p13 : lw_okq (⟨"RowsColumns$Cloth", "slantSquares", "(I)J"⟩, 4) := ⟨⟨by decide +kernel, by decide +kernel⟩, List.mem_of_getElem? (i := 27) (by decide +kernel), List.mem_of_getElem? (i := 529) (by decide +kernel), List.mem_of_getElem? (i := 530) (by decide +kernel)⟩
theorem lw_p14 : lw_okq (⟨"RowsColumns", "imageOf", "(I)LRowsColumns$Cloth;"⟩, 15) := ⟨⟨by decide +kernel, by decide +kernel⟩, List.mem_of_getElem? (i := 19) (by decide +kernel), List.mem_of_getElem? (i := 590) (by decide +kernel), List.mem_of_getElem? (i := 591) (by decide +kernel)⟩
theorem lw_p15 : lw_okq (⟨"RowsColumns$Way", "take", "(III)V"⟩, 10) := ⟨⟨by decide +kernel, by decide +kernel⟩, List.mem_of_getElem? (i := 167) (by decide +kernel), List.mem_of_getElem? (i := 606) (by decide +kernel), List.mem_of_getElem? (i := 607) (by decide +kernel)⟩
def lw_privs_1 : List (MethodName × Nat) := [(⟨"RowsColumns$Teller", "takeLine", "()Z"⟩, 10), (⟨"RowsColumns$Teller", "step", "()V"⟩, 10), (⟨"RowsColumns$Teller", "stepNumber", "()V"⟩, 10), (⟨"RowsColumns$Teller", "refuse", "(I)Z"⟩, 10), (⟨"RowsColumns$Teller", "isNamed", "(Ljava/lang/String;)Z"⟩, 10), (⟨"RowsColumns$Teller", "takeRows", "(LRowsColumns$Cloth;)Z"⟩, 10), (⟨"RowsColumns$Teller", "takeRow", "(LRowsColumns$Cloth;)Z"⟩, 10), (⟨"RowsColumns$Teller", "isRow", "()Z"⟩, 10), (⟨"RowsColumns$Teller", "takeDay", "()Z"⟩, 10), (⟨"RowsColumns$Teller", "kindNamed", "()I"⟩, 10), (⟨"RowsColumns$Teller", "takeNumber", "(I)Z"⟩, 10), (⟨"RowsColumns$Teller", "judgeWhole", "()V"⟩, 10), (⟨"RowsColumns$Cloth", "columnSquares", "(I)J"⟩, 4), (⟨"RowsColumns$Cloth", "slantSquares", "(I)J"⟩, 4), (⟨"RowsColumns", "imageOf", "(I)LRowsColumns$Cloth;"⟩, 15), (⟨"RowsColumns$Way", "take", "(III)V"⟩, 10)]
theorem lw_r1 : ∀ q ∈ lw_privs_1, lw_okq q := List.forall_mem_cons.mpr ⟨lw_p0, List.forall_mem_cons.mpr ⟨lw_p1, List.forall_mem_cons.mpr ⟨lw_p2, List.forall_mem_cons.mpr ⟨lw_p3, List.forall_mem_cons.mpr ⟨lw_p4, List.forall_mem_cons.mpr ⟨lw_p5, List.forall_mem_cons.mpr ⟨lw_p6, List.forall_mem_cons.mpr ⟨lw_p7, List.forall_mem_cons.mpr ⟨lw_p8, List.forall_mem_cons.mpr ⟨lw_p9, List.forall_mem_cons.mpr ⟨lw_p10, List.forall_mem_cons.mpr ⟨lw_p11, List.forall_mem_cons.mpr ⟨lw_p12, List.forall_mem_cons.mpr ⟨lw_p13, List.forall_mem_cons.mpr ⟨lw_p14, List.forall_mem_cons.mpr ⟨lw_p15, fun _ h => absurd h List.not_mem_nil⟩⟩⟩⟩⟩⟩⟩⟩⟩⟩⟩⟩⟩⟩⟩⟩
theorem lw_p16 : lw_okq (⟨"RowsColumns", "toldOf", "(II)I"⟩, 15) := ⟨⟨by decide +kernel, by decide +kernel⟩, List.mem_of_getElem? (i := 19) (by decide +kernel), List.mem_of_getElem? (i := 627) (by decide +kernel), List.mem_of_getElem? (i := 628) (by decide +kernel)⟩
theorem lw_p17 : lw_okq (⟨"RowsColumns$Way", "tryRows", "(LRowsColumns$Cloth;IJ)V"⟩, 10) := ⟨⟨by decide +kernel, by decide +kernel⟩, List.mem_of_getElem? (i := 167) (by decide +kernel), List.mem_of_getElem? (i := 640) (by decide +kernel), List.mem_of_getElem? (i := 641) (by decide +kernel)⟩
theorem lw_p18 : lw_okq (⟨"RowsColumns$Way", "trySlants", "(IIJ)V"⟩, 10) := ⟨⟨by decide +kernel, by decide +kernel⟩, List.mem_of_getElem? (i := 167) (by decide +kernel), List.mem_of_getElem? (i := 673) (by decide +kernel), List.mem_of_getElem? (i := 674) (by decide +kernel)⟩
theorem lw_p19 : lw_okq (⟨"RowsColumns$Way", "slantsThatMake", "(J)I"⟩, 10) := ⟨⟨by decide +kernel, by decide +kernel⟩, List.mem_of_getElem? (i := 167) (by decide +kernel), List.mem_of_getElem? (i := 677) (by decide +kernel), List.mem_of_getElem? (i := 678) (by decide +kernel)⟩
theorem lw_p20 : lw_okq (⟨"RowsColumns", "independentLines", "(I)I"⟩, 15) := ⟨⟨by decide +kernel, by decide +kernel⟩, List.mem_of_getElem? (i := 19) (by decide +kernel), List.mem_of_getElem? (i := 685) (by decide +kernel), List.mem_of_getElem? (i := 686) (by decide +kernel)⟩
theorem lw_p21 : lw_okq (⟨"RowsColumns", "spoiltTold", "(I)I"⟩, 15) := ⟨⟨by decide +kernel, by decide +kernel⟩, List.mem_of_getElem? (i := 19) (by decide +kernel), List.mem_of_getElem? (i := 713) (by decide +kernel), List.mem_of_getElem? (i := 714) (by decide +kernel)⟩
theorem lw_p22 : lw_okq (⟨"RowsColumns$Way", "pairWith", "(LRowsColumns$Cloth;IJ)V"⟩, 10) := ⟨⟨by decide +kernel, by decide +kernel⟩, List.mem_of_getElem? (i := 167) (by decide +kernel), List.mem_of_getElem? (i := 725) (by decide +kernel), List.mem_of_getElem? (i := 726) (by decide +kernel)⟩
theorem lw_p23 : lw_okq (⟨"RowsColumns$Cloth", "mirror", "()V"⟩, 4) := ⟨⟨by decide +kernel, by decide +kernel⟩, List.mem_of_getElem? (i := 27) (by decide +kernel), List.mem_of_getElem? (i := 737) (by decide +kernel), List.mem_of_getElem? (i := 738) (by decide +kernel)⟩
theorem lw_p24 : lw_okq (⟨"RowsColumns$Cloth", "quarterRight", "()V"⟩, 4) := ⟨⟨by decide +kernel, by decide +kernel⟩, List.mem_of_getElem? (i := 27) (by decide +kernel), List.mem_of_getElem? (i := 741) (by decide +kernel), List.mem_of_getElem? (i := 742) (by decide +kernel)⟩
theorem lw_p25 : lw_okq (⟨"RowsColumns", "forgetPlans", "()V"⟩, 15) := ⟨⟨by decide +kernel, by decide +kernel⟩, List.mem_of_getElem? (i := 19) (by decide +kernel), List.mem_of_getElem? (i := 761) (by decide +kernel), List.mem_of_getElem? (i := 762) (by decide +kernel)⟩
theorem lw_p26 : lw_okq (⟨"RowsColumnsModel", "firstDraft", "()V"⟩, 47) := ⟨⟨by decide +kernel, by decide +kernel⟩, List.mem_of_getElem? (i := 855) (by decide +kernel), List.mem_of_getElem? (i := 861) (by decide +kernel), List.mem_of_getElem? (i := 862) (by decide +kernel)⟩
theorem lw_p27 : lw_okq (⟨"RowsColumnsModel", "keepDraft", "()V"⟩, 47) := ⟨⟨by decide +kernel, by decide +kernel⟩, List.mem_of_getElem? (i := 855) (by decide +kernel), List.mem_of_getElem? (i := 865) (by decide +kernel), List.mem_of_getElem? (i := 866) (by decide +kernel)⟩
theorem lw_p28 : lw_okq (⟨"RowsColumnsModel", "next", "()V"⟩, 47) := ⟨⟨by decide +kernel, by decide +kernel⟩, List.mem_of_getElem? (i := 855) (by decide +kernel), List.mem_of_getElem? (i := 1027) (by decide +kernel), List.mem_of_getElem? (i := 1028) (by decide +kernel)⟩
theorem lw_p29 : lw_okq (⟨"RowsColumnsModel", "look", "(I)I"⟩, 47) := ⟨⟨by decide +kernel, by decide +kernel⟩, List.mem_of_getElem? (i := 855) (by decide +kernel), List.mem_of_getElem? (i := 1031) (by decide +kernel), List.mem_of_getElem? (i := 1032) (by decide +kernel)⟩
theorem lw_p30 : lw_okq (⟨"RowsColumnsModel", "needs", "(ZI)V"⟩, 47) := ⟨⟨by decide +kernel, by decide +kernel⟩, List.mem_of_getElem? (i := 855) (by decide +kernel), List.mem_of_getElem? (i := 1039) (by decide +kernel), List.mem_of_getElem? (i := 1040) (by decide +kernel)⟩
theorem lw_p31 : lw_okq (⟨"RowsColumnsModel", "readLine", "()V"⟩, 47) := ⟨⟨by decide +kernel, by decide +kernel⟩, List.mem_of_getElem? (i := 855) (by decide +kernel), List.mem_of_getElem? (i := 1043) (by decide +kernel), List.mem_of_getElem? (i := 1044) (by decide +kernel)⟩
def lw_privs_2 : List (MethodName × Nat) := [(⟨"RowsColumns", "toldOf", "(II)I"⟩, 15), (⟨"RowsColumns$Way", "tryRows", "(LRowsColumns$Cloth;IJ)V"⟩, 10), (⟨"RowsColumns$Way", "trySlants", "(IIJ)V"⟩, 10), (⟨"RowsColumns$Way", "slantsThatMake", "(J)I"⟩, 10), (⟨"RowsColumns", "independentLines", "(I)I"⟩, 15), (⟨"RowsColumns", "spoiltTold", "(I)I"⟩, 15), (⟨"RowsColumns$Way", "pairWith", "(LRowsColumns$Cloth;IJ)V"⟩, 10), (⟨"RowsColumns$Cloth", "mirror", "()V"⟩, 4), (⟨"RowsColumns$Cloth", "quarterRight", "()V"⟩, 4), (⟨"RowsColumns", "forgetPlans", "()V"⟩, 15), (⟨"RowsColumnsModel", "firstDraft", "()V"⟩, 47), (⟨"RowsColumnsModel", "keepDraft", "()V"⟩, 47), (⟨"RowsColumnsModel", "next", "()V"⟩, 47), (⟨"RowsColumnsModel", "look", "(I)I"⟩, 47), (⟨"RowsColumnsModel", "needs", "(ZI)V"⟩, 47), (⟨"RowsColumnsModel", "readLine", "()V"⟩, 47)]
theorem lw_r2 : ∀ q ∈ lw_privs_2, lw_okq q := List.forall_mem_cons.mpr ⟨lw_p16, List.forall_mem_cons.mpr ⟨lw_p17, List.forall_mem_cons.mpr ⟨lw_p18, List.forall_mem_cons.mpr ⟨lw_p19, List.forall_mem_cons.mpr ⟨lw_p20, List.forall_mem_cons.mpr ⟨lw_p21, List.forall_mem_cons.mpr ⟨lw_p22, List.forall_mem_cons.mpr ⟨lw_p23, List.forall_mem_cons.mpr ⟨lw_p24, List.forall_mem_cons.mpr ⟨lw_p25, List.forall_mem_cons.mpr ⟨lw_p26, List.forall_mem_cons.mpr ⟨lw_p27, List.forall_mem_cons.mpr ⟨lw_p28, List.forall_mem_cons.mpr ⟨lw_p29, List.forall_mem_cons.mpr ⟨lw_p30, List.forall_mem_cons.mpr ⟨lw_p31, fun _ h => absurd h List.not_mem_nil⟩⟩⟩⟩⟩⟩⟩⟩⟩⟩⟩⟩⟩⟩⟩⟩
theorem lw_p32 : lw_okq (⟨"RowsColumnsModel", "lineNow", "()I"⟩, 47) := ⟨⟨by decide +kernel, by decide +kernel⟩, List.mem_of_getElem? (i := 855) (by decide +kernel), List.mem_of_getElem? (i := 1047) (by decide +kernel), List.mem_of_getElem? (i := 1048) (by decide +kernel)⟩
theorem lw_p33 : lw_okq (⟨"RowsColumnsModel", "is", "(IIII)Z"⟩, 47) := ⟨⟨by decide +kernel, by decide +kernel⟩, List.mem_of_getElem? (i := 855) (by decide +kernel), List.mem_of_getElem? (i := 1051) (by decide +kernel), List.mem_of_getElem? (i := 1052) (by decide +kernel)⟩
theorem lw_p34 : lw_okq (⟨"RowsColumnsModel", "goesOn", "(IIII)Z"⟩, 47) := ⟨⟨by decide +kernel, by decide +kernel⟩, List.mem_of_getElem? (i := 855) (by decide +kernel), List.mem_of_getElem? (i := 1055) (by decide +kernel), List.mem_of_getElem? (i := 1056) (by decide +kernel)⟩
theorem lw_p35 : lw_okq (⟨"RowsColumnsModel", "readDay", "()V"⟩, 47) := ⟨⟨by decide +kernel, by decide +kernel⟩, List.mem_of_getElem? (i := 855) (by decide +kernel), List.mem_of_getElem? (i := 1059) (by decide +kernel), List.mem_of_getElem? (i := 1060) (by decide +kernel)⟩
theorem lw_p36 : lw_okq (⟨"RowsColumnsModel", "readAct", "(I)V"⟩, 47) := ⟨⟨by decide +kernel, by decide +kernel⟩, List.mem_of_getElem? (i := 855) (by decide +kernel), List.mem_of_getElem? (i := 1063) (by decide +kernel), List.mem_of_getElem? (i := 1064) (by decide +kernel)⟩
theorem lw_p37 : lw_okq (⟨"RowsColumnsModel", "actNow", "()I"⟩, 47) := ⟨⟨by decide +kernel, by decide +kernel⟩, List.mem_of_getElem? (i := 855) (by decide +kernel), List.mem_of_getElem? (i := 1067) (by decide +kernel), List.mem_of_getElem? (i := 1068) (by decide +kernel)⟩
theorem lw_p38 : lw_okq (⟨"RowsColumnsModel", "readRows", "()V"⟩, 47) := ⟨⟨by decide +kernel, by decide +kernel⟩, List.mem_of_getElem? (i := 855) (by decide +kernel), List.mem_of_getElem? (i := 1073) (by decide +kernel), List.mem_of_getElem? (i := 1074) (by decide +kernel)⟩
theorem lw_p39 : lw_okq (⟨"RowsColumnsModel", "isRowName", "()Z"⟩, 47) := ⟨⟨by decide +kernel, by decide +kernel⟩, List.mem_of_getElem? (i := 855) (by decide +kernel), List.mem_of_getElem? (i := 1077) (by decide +kernel), List.mem_of_getElem? (i := 1078) (by decide +kernel)⟩
theorem lw_p40 : lw_okq (⟨"RowsColumnsModel", "areActs", "()Z"⟩, 47) := ⟨⟨by decide +kernel, by decide +kernel⟩, List.mem_of_getElem? (i := 855) (by decide +kernel), List.mem_of_getElem? (i := 1084) (by decide +kernel), List.mem_of_getElem? (i := 1085) (by decide +kernel)⟩
theorem lw_p41 : lw_okq (⟨"RowsColumnsModel", "isSquare", "(II)Z"⟩, 47) := ⟨⟨by decide +kernel, by decide +kernel⟩, List.mem_of_getElem? (i := 855) (by decide +kernel), List.mem_of_getElem? (i := 1116) (by decide +kernel), List.mem_of_getElem? (i := 1117) (by decide +kernel)⟩
theorem lw_p42 : lw_okq (⟨"RowsColumnsModel", "isAct", "(II)Z"⟩, 47) := ⟨⟨by decide +kernel, by decide +kernel⟩, List.mem_of_getElem? (i := 855) (by decide +kernel), List.mem_of_getElem? (i := 1135) (by decide +kernel), List.mem_of_getElem? (i := 1136) (by decide +kernel)⟩
theorem lw_p43 : lw_okq (⟨"RowsColumnsModel", "actSet", "(II)J"⟩, 47) := ⟨⟨by decide +kernel, by decide +kernel⟩, List.mem_of_getElem? (i := 855) (by decide +kernel), List.mem_of_getElem? (i := 1139) (by decide +kernel), List.mem_of_getElem? (i := 1140) (by decide +kernel)⟩
theorem lw_p44 : lw_okq (⟨"RowsColumnsModel", "turnSet", "(II)J"⟩, 47) := ⟨⟨by decide +kernel, by decide +kernel⟩, List.mem_of_getElem? (i := 855) (by decide +kernel), List.mem_of_getElem? (i := 1150) (by decide +kernel), List.mem_of_getElem? (i := 1151) (by decide +kernel)⟩
theorem lw_p45 : lw_okq (⟨"RowsColumnsModel", "formNow", "(J)J"⟩, 47) := ⟨⟨by decide +kernel, by decide +kernel⟩, List.mem_of_getElem? (i := 855) (by decide +kernel), List.mem_of_getElem? (i := 1162) (by decide +kernel), List.mem_of_getElem? (i := 1163) (by decide +kernel)⟩
theorem lw_p46 : lw_okq (⟨"RowsColumnsModel", "isKept", "(I)Z"⟩, 47) := ⟨⟨by decide +kernel, by decide +kernel⟩, List.mem_of_getElem? (i := 855) (by decide +kernel), List.mem_of_getElem? (i := 1180) (by decide +kernel), List.mem_of_getElem? (i := 1181) (by decide +kernel)⟩
theorem lw_p47 : lw_okq (⟨"RowsColumnsModel", "isOfSize", "(I)Z"⟩, 47) := ⟨⟨by decide +kernel, by decide +kernel⟩, List.mem_of_getElem? (i := 855) (by decide +kernel), List.mem_of_getElem? (i := 1184) (by decide +kernel), List.mem_of_getElem? (i := 1185) (by decide +kernel)⟩
def lw_privs_3 : List (MethodName × Nat) := [(⟨"RowsColumnsModel", "lineNow", "()I"⟩, 47), (⟨"RowsColumnsModel", "is", "(IIII)Z"⟩, 47), (⟨"RowsColumnsModel", "goesOn", "(IIII)Z"⟩, 47), (⟨"RowsColumnsModel", "readDay", "()V"⟩, 47), (⟨"RowsColumnsModel", "readAct", "(I)V"⟩, 47), (⟨"RowsColumnsModel", "actNow", "()I"⟩, 47), (⟨"RowsColumnsModel", "readRows", "()V"⟩, 47), (⟨"RowsColumnsModel", "isRowName", "()Z"⟩, 47), (⟨"RowsColumnsModel", "areActs", "()Z"⟩, 47), (⟨"RowsColumnsModel", "isSquare", "(II)Z"⟩, 47), (⟨"RowsColumnsModel", "isAct", "(II)Z"⟩, 47), (⟨"RowsColumnsModel", "actSet", "(II)J"⟩, 47), (⟨"RowsColumnsModel", "turnSet", "(II)J"⟩, 47), (⟨"RowsColumnsModel", "formNow", "(J)J"⟩, 47), (⟨"RowsColumnsModel", "isKept", "(I)Z"⟩, 47), (⟨"RowsColumnsModel", "isOfSize", "(I)Z"⟩, 47)]
theorem lw_r3 : ∀ q ∈ lw_privs_3, lw_okq q := List.forall_mem_cons.mpr ⟨lw_p32, List.forall_mem_cons.mpr ⟨lw_p33, List.forall_mem_cons.mpr ⟨lw_p34, List.forall_mem_cons.mpr ⟨lw_p35, List.forall_mem_cons.mpr ⟨lw_p36, List.forall_mem_cons.mpr ⟨lw_p37, List.forall_mem_cons.mpr ⟨lw_p38, List.forall_mem_cons.mpr ⟨lw_p39, List.forall_mem_cons.mpr ⟨lw_p40, List.forall_mem_cons.mpr ⟨lw_p41, List.forall_mem_cons.mpr ⟨lw_p42, List.forall_mem_cons.mpr ⟨lw_p43, List.forall_mem_cons.mpr ⟨lw_p44, List.forall_mem_cons.mpr ⟨lw_p45, List.forall_mem_cons.mpr ⟨lw_p46, List.forall_mem_cons.mpr ⟨lw_p47, fun _ h => absurd h List.not_mem_nil⟩⟩⟩⟩⟩⟩⟩⟩⟩⟩⟩⟩⟩⟩⟩⟩
theorem lw_p48 : lw_okq (⟨"RowsColumnsModel", "findPlan", "(J)Z"⟩, 47) := ⟨⟨by decide +kernel, by decide +kernel⟩, List.mem_of_getElem? (i := 855) (by decide +kernel), List.mem_of_getElem? (i := 1193) (by decide +kernel), List.mem_of_getElem? (i := 1194) (by decide +kernel)⟩
theorem lw_p49 : lw_okq (⟨"RowsColumnsModel", "planTold", "(I)I"⟩, 47) := ⟨⟨by decide +kernel, by decide +kernel⟩, List.mem_of_getElem? (i := 855) (by decide +kernel), List.mem_of_getElem? (i := 1197) (by decide +kernel), List.mem_of_getElem? (i := 1198) (by decide +kernel)⟩
theorem lw_p50 : lw_okq (⟨"RowsColumnsModel", "findNearest", "(J)V"⟩, 47) := ⟨⟨by decide +kernel, by decide +kernel⟩, List.mem_of_getElem? (i := 855) (by decide +kernel), List.mem_of_getElem? (i := 1205) (by decide +kernel), List.mem_of_getElem? (i := 1206) (by decide +kernel)⟩
theorem lw_p51 : lw_okq (⟨"RowsColumnsModel", "nearTold", "(I)I"⟩, 47) := ⟨⟨by decide +kernel, by decide +kernel⟩, List.mem_of_getElem? (i := 855) (by decide +kernel), List.mem_of_getElem? (i := 1209) (by decide +kernel), List.mem_of_getElem? (i := 1210) (by decide +kernel)⟩
theorem lw_p52 : lw_okq (⟨"RowsColumnsModel", "mostOf", "(JI)I"⟩, 47) := ⟨⟨by decide +kernel, by decide +kernel⟩, List.mem_of_getElem? (i := 855) (by decide +kernel), List.mem_of_getElem? (i := 1221) (by decide +kernel), List.mem_of_getElem? (i := 1222) (by decide +kernel)⟩
theorem lw_p53 : lw_okq (⟨"RowsColumnsModel", "isBefore", "(IIIIIIII)Z"⟩, 47) := ⟨⟨by decide +kernel, by decide +kernel⟩, List.mem_of_getElem? (i := 855) (by decide +kernel), List.mem_of_getElem? (i := 1229) (by decide +kernel), List.mem_of_getElem? (i := 1230) (by decide +kernel)⟩
theorem lw_p54 : lw_okq (⟨"RowsColumnsModel", "isNew", "(J)Z"⟩, 47) := ⟨⟨by decide +kernel, by decide +kernel⟩, List.mem_of_getElem? (i := 855) (by decide +kernel), List.mem_of_getElem? (i := 1237) (by decide +kernel), List.mem_of_getElem? (i := 1238) (by decide +kernel)⟩
theorem lw_p55 : lw_okq (⟨"RowsColumnsModel", "worthOf", "(IIZ)I"⟩, 47) := ⟨⟨by decide +kernel, by decide +kernel⟩, List.mem_of_getElem? (i := 855) (by decide +kernel), List.mem_of_getElem? (i := 1246) (by decide +kernel), List.mem_of_getElem? (i := 1247) (by decide +kernel)⟩
theorem lw_p56 : lw_okq (⟨"RowsColumnsModel", "isMove", "(ZI)Z"⟩, 47) := ⟨⟨by decide +kernel, by decide +kernel⟩, List.mem_of_getElem? (i := 855) (by decide +kernel), List.mem_of_getElem? (i := 1250) (by decide +kernel), List.mem_of_getElem? (i := 1251) (by decide +kernel)⟩
theorem lw_p57 : lw_okq (⟨"RowsColumnsModel", "best", "(IZ)I"⟩, 47) := ⟨⟨by decide +kernel, by decide +kernel⟩, List.mem_of_getElem? (i := 855) (by decide +kernel), List.mem_of_getElem? (i := 1254) (by decide +kernel), List.mem_of_getElem? (i := 1255) (by decide +kernel)⟩
theorem lw_p58 : lw_okq (⟨"RowsColumnsModel", "endsPattern", "()V"⟩, 47) := ⟨⟨by decide +kernel, by decide +kernel⟩, List.mem_of_getElem? (i := 855) (by decide +kernel), List.mem_of_getElem? (i := 1287) (by decide +kernel), List.mem_of_getElem? (i := 1288) (by decide +kernel)⟩
theorem lw_p59 : lw_okq (⟨"RowsColumnsModel", "findName", "(JII)V"⟩, 47) := ⟨⟨by decide +kernel, by decide +kernel⟩, List.mem_of_getElem? (i := 855) (by decide +kernel), List.mem_of_getElem? (i := 1299) (by decide +kernel), List.mem_of_getElem? (i := 1300) (by decide +kernel)⟩
def lw_privs_4 : List (MethodName × Nat) := [(⟨"RowsColumnsModel", "findPlan", "(J)Z"⟩, 47), (⟨"RowsColumnsModel", "planTold", "(I)I"⟩, 47), (⟨"RowsColumnsModel", "findNearest", "(J)V"⟩, 47), (⟨"RowsColumnsModel", "nearTold", "(I)I"⟩, 47), (⟨"RowsColumnsModel", "mostOf", "(JI)I"⟩, 47), (⟨"RowsColumnsModel", "isBefore", "(IIIIIIII)Z"⟩, 47), (⟨"RowsColumnsModel", "isNew", "(J)Z"⟩, 47), (⟨"RowsColumnsModel", "worthOf", "(IIZ)I"⟩, 47), (⟨"RowsColumnsModel", "isMove", "(ZI)Z"⟩, 47), (⟨"RowsColumnsModel", "best", "(IZ)I"⟩, 47), (⟨"RowsColumnsModel", "endsPattern", "()V"⟩, 47), (⟨"RowsColumnsModel", "findName", "(JII)V"⟩, 47)]
theorem lw_r4 : ∀ q ∈ lw_privs_4, lw_okq q := List.forall_mem_cons.mpr ⟨lw_p48, List.forall_mem_cons.mpr ⟨lw_p49, List.forall_mem_cons.mpr ⟨lw_p50, List.forall_mem_cons.mpr ⟨lw_p51, List.forall_mem_cons.mpr ⟨lw_p52, List.forall_mem_cons.mpr ⟨lw_p53, List.forall_mem_cons.mpr ⟨lw_p54, List.forall_mem_cons.mpr ⟨lw_p55, List.forall_mem_cons.mpr ⟨lw_p56, List.forall_mem_cons.mpr ⟨lw_p57, List.forall_mem_cons.mpr ⟨lw_p58, List.forall_mem_cons.mpr ⟨lw_p59, fun _ h => absurd h List.not_mem_nil⟩⟩⟩⟩⟩⟩⟩⟩⟩⟩⟩⟩
def lw_privs : List (MethodName × Nat) := lw_privs_1 ++ (lw_privs_2 ++ (lw_privs_3 ++ (lw_privs_4)))
def lw_tbl : List Cond := k2_sels lw_privs ++ tables_1
theorem lw_privs_ok : ∀ q ∈ lw_privs, lw_okq q := by
  show ∀ q ∈ lw_privs_1 ++ (lw_privs_2 ++ (lw_privs_3 ++ (lw_privs_4))), lw_okq q
  exact List.forall_mem_append.mpr ⟨lw_r1, List.forall_mem_append.mpr ⟨lw_r2, List.forall_mem_append.mpr ⟨lw_r3, lw_r4⟩⟩⟩

theorem mt1 : ∀ w ∈ tables_1_1, w ∈ lw_tbl := fun w h => List.mem_append_right _ (List.mem_append_left _ h)
theorem mt2 : ∀ w ∈ tables_1_2, w ∈ lw_tbl := fun w h => List.mem_append_right _ (List.mem_append_right _ (List.mem_append_left _ h))
theorem mt3 : ∀ w ∈ tables_1_3, w ∈ lw_tbl := fun w h => List.mem_append_right _ (List.mem_append_right _ (List.mem_append_right _ (List.mem_append_left _ h)))
theorem mt4 : ∀ w ∈ tables_1_4, w ∈ lw_tbl := fun w h => List.mem_append_right _ (List.mem_append_right _ (List.mem_append_right _ (List.mem_append_right _ (List.mem_append_left _ h))))
theorem mt5 : ∀ w ∈ tables_1_5, w ∈ lw_tbl := fun w h => List.mem_append_right _ (List.mem_append_right _ (List.mem_append_right _ (List.mem_append_right _ (List.mem_append_right _ (List.mem_append_left _ h)))))
theorem mt6 : ∀ w ∈ tables_1_6, w ∈ lw_tbl := fun w h => List.mem_append_right _ (List.mem_append_right _ (List.mem_append_right _ (List.mem_append_right _ (List.mem_append_right _ (List.mem_append_right _ (h))))))
theorem mp : ∀ q ∈ lw_privs, Cond.selects q.1.cls q.1 q.1 ∈ lw_tbl := fun q h => List.mem_append_left _ (List.mem_map.mpr ⟨q, h, rfl⟩)
def RX0 : String := "RowsColumns$Cloth"
def TX0 : u_T := fun k => match k with
  | 0 => ("RowsColumns$Cloth", "there", "Z", false)
  | 1 => ("RowsColumns$Cloth", "high", "I", false)
  | 2 => ("RowsColumns$Cloth", "wide", "I", false)
  | _ => ("RowsColumns$Cloth", "dark", "J", false)
def tyX0 : Nat → FieldType := fun k => match k with
  | 0 => .boolean
  | 1 => .int
  | 2 => .int
  | _ => .long
theorem nmX0 : ∀ a, a < 4 → ∀ b, b < 4 → a ≠ b → (TX0 a).2.1 ≠ (TX0 b).2.1 := by decide +kernel
theorem tyX0_ok : ∀ k, k < 4 → parseFieldDescriptor (TX0 k).2.2.1 = some (tyX0 k) := by decide +kernel
abbrev cX0_init : ByteArray := prog_2_method_1_code
def yX0_init : MethodName := ⟨RX0, "<init>", "(Z)V"⟩
abbrev cX0_forget : ByteArray := prog_2_method_2_code
def yX0_forget : MethodName := ⟨RX0, "forget", "()V"⟩
abbrev cX0_become : ByteArray := prog_2_method_3_code
def yX0_become : MethodName := ⟨RX0, "become", "(LRowsColumns$Cloth;)V"⟩
abbrev cX0_resize : ByteArray := prog_2_method_4_code
def yX0_resize : MethodName := ⟨RX0, "resize", "(IIJ)V"⟩
abbrev cX0_sameSize : ByteArray := prog_2_method_5_code
def yX0_sameSize : MethodName := ⟨RX0, "sameSize", "(LRowsColumns$Cloth;)Z"⟩
abbrev cX0_darkSquares : ByteArray := prog_2_method_6_code
def yX0_darkSquares : MethodName := ⟨RX0, "darkSquares", "()I"⟩
abbrev cX0_everyRow : ByteArray := prog_2_method_7_code
def yX0_everyRow : MethodName := ⟨RX0, "everyRow", "()I"⟩
abbrev cX0_everyColumn : ByteArray := prog_2_method_8_code
def yX0_everyColumn : MethodName := ⟨RX0, "everyColumn", "()I"⟩
abbrev cX0_allSquares : ByteArray := prog_2_method_9_code
def yX0_allSquares : MethodName := ⟨RX0, "allSquares", "()J"⟩
abbrev cX0_hasSquare : ByteArray := prog_2_method_10_code
def yX0_hasSquare : MethodName := ⟨RX0, "hasSquare", "(II)Z"⟩
abbrev cX0_squareAt : ByteArray := prog_2_method_11_code
def yX0_squareAt : MethodName := ⟨RX0, "squareAt", "(II)I"⟩
abbrev cX0_colour : ByteArray := prog_2_method_12_code
def yX0_colour : MethodName := ⟨RX0, "colour", "(IIZ)I"⟩
abbrev cX0_linesOf : ByteArray := prog_2_method_13_code
def yX0_linesOf : MethodName := ⟨RX0, "linesOf", "(I)I"⟩
abbrev cX0_hasLine : ByteArray := prog_2_method_14_code
def yX0_hasLine : MethodName := ⟨RX0, "hasLine", "(II)Z"⟩
abbrev cX0_squaresOf : ByteArray := prog_2_method_15_code
def yX0_squaresOf : MethodName := ⟨RX0, "squaresOf", "(II)J"⟩
abbrev cX0_columnSquares : ByteArray := prog_2_method_16_code
def yX0_columnSquares : MethodName := ⟨RX0, "columnSquares", "(I)J"⟩
abbrev cX0_slantSquares : ByteArray := prog_2_method_17_code
def yX0_slantSquares : MethodName := ⟨RX0, "slantSquares", "(I)J"⟩
abbrev cX0_squaresTurned : ByteArray := prog_2_method_18_code
def yX0_squaresTurned : MethodName := ⟨RX0, "squaresTurned", "(II)J"⟩
abbrev cX0_columnsOfFirstRow : ByteArray := prog_2_method_19_code
def yX0_columnsOfFirstRow : MethodName := ⟨RX0, "columnsOfFirstRow", "(J)I"⟩
abbrev cX0_rowsUnlikeFirst : ByteArray := prog_2_method_20_code
def yX0_rowsUnlikeFirst : MethodName := ⟨RX0, "rowsUnlikeFirst", "(J)I"⟩
abbrev cX0_formOf : ByteArray := prog_2_method_21_code
def yX0_formOf : MethodName := ⟨RX0, "formOf", "(J)J"⟩
abbrev cX0_rotateBy : ByteArray := prog_2_method_22_code
def yX0_rotateBy : MethodName := ⟨RX0, "rotateBy", "(I)V"⟩
abbrev cX0_mirror : ByteArray := prog_2_method_23_code
def yX0_mirror : MethodName := ⟨RX0, "mirror", "()V"⟩
abbrev cX0_quarterRight : ByteArray := prog_2_method_24_code
def yX0_quarterRight : MethodName := ⟨RX0, "quarterRight", "()V"⟩
def RX1 : String := "RowsColumns$Days"
def TX1 : u_T := fun k => match k with
  | 0 => ("RowsColumns$Days", "many", "I", false)
  | 1 => ("RowsColumns$Days", "acts", "[I", true)
  | _ => ("RowsColumns$Days", "codes", "[I", true)
def tyX1 : Nat → FieldType := fun k => match k with
  | 0 => .int
  | 1 => .array .int
  | _ => .array .int
theorem nmX1 : ∀ a, a < 3 → ∀ b, b < 3 → a ≠ b → (TX1 a).2.1 ≠ (TX1 b).2.1 := by decide +kernel
theorem tyX1_ok : ∀ k, k < 3 → parseFieldDescriptor (TX1 k).2.2.1 = some (tyX1 k) := by decide +kernel
abbrev cX1_init : ByteArray := prog_3_method_1_code
def yX1_init : MethodName := ⟨RX1, "<init>", "()V"⟩
abbrev cX1_clear : ByteArray := prog_3_method_2_code
def yX1_clear : MethodName := ⟨RX1, "clear", "()V"⟩
abbrev cX1_become : ByteArray := prog_3_method_3_code
def yX1_become : MethodName := ⟨RX1, "become", "(LRowsColumns$Days;)V"⟩
abbrev cX1_begin : ByteArray := prog_3_method_4_code
def yX1_begin : MethodName := ⟨RX1, "begin", "()V"⟩
abbrev cX1_add : ByteArray := prog_3_method_5_code
def yX1_add : MethodName := ⟨RX1, "add", "(II)V"⟩
abbrev cX1_actsOf : ByteArray := prog_3_method_6_code
def yX1_actsOf : MethodName := ⟨RX1, "actsOf", "(I)I"⟩
abbrev cX1_codeOf : ByteArray := prog_3_method_7_code
def yX1_codeOf : MethodName := ⟨RX1, "codeOf", "(II)I"⟩
abbrev cX1_kindOf : ByteArray := prog_3_method_8_code
def yX1_kindOf : MethodName := ⟨RX1, "kindOf", "(II)I"⟩
abbrev cX1_numberOf : ByteArray := prog_3_method_9_code
def yX1_numberOf : MethodName := ⟨RX1, "numberOf", "(II)I"⟩
def RX2 : String := "RowsColumns$Name"
def TX2 : u_T := fun k => match k with
  | 0 => ("RowsColumns$Name", "high", "I", false)
  | 1 => ("RowsColumns$Name", "wide", "I", false)
  | 2 => ("RowsColumns$Name", "form", "J", false)
  | _ => ("RowsColumns$Name", "turning", "I", false)
def tyX2 : Nat → FieldType := fun k => match k with
  | 0 => .int
  | 1 => .int
  | 2 => .long
  | _ => .int
theorem nmX2 : ∀ a, a < 4 → ∀ b, b < 4 → a ≠ b → (TX2 a).2.1 ≠ (TX2 b).2.1 := by decide +kernel
theorem tyX2_ok : ∀ k, k < 4 → parseFieldDescriptor (TX2 k).2.2.1 = some (tyX2 k) := by decide +kernel
abbrev cX2_init : ByteArray := prog_4_method_1_code
def yX2_init : MethodName := ⟨RX2, "<init>", "()V"⟩
abbrev cX2_find : ByteArray := prog_4_method_2_code
def yX2_find : MethodName := ⟨RX2, "find", "(LRowsColumns$Cloth;LRowsColumns$Cloth;)V"⟩
abbrev cX2_sameAs : ByteArray := prog_4_method_3_code
def yX2_sameAs : MethodName := ⟨RX2, "sameAs", "(LRowsColumns$Name;)Z"⟩
def RX3 : String := "RowsColumns$Sheet"
def TX3 : u_T := fun k => match k with
  | 0 => ("RowsColumns$Sheet", "size", "I", false)
  | 1 => ("RowsColumns$Sheet", "lane", "I", false)
  | _ => ("RowsColumns$Sheet", "cells", "[I", true)
def tyX3 : Nat → FieldType := fun k => match k with
  | 0 => .int
  | 1 => .int
  | _ => .array .int
theorem nmX3 : ∀ a, a < 3 → ∀ b, b < 3 → a ≠ b → (TX3 a).2.1 ≠ (TX3 b).2.1 := by decide +kernel
theorem tyX3_ok : ∀ k, k < 3 → parseFieldDescriptor (TX3 k).2.2.1 = some (tyX3 k) := by decide +kernel
abbrev cX3_init : ByteArray := prog_5_method_1_code
def yX3_init : MethodName := ⟨RX3, "<init>", "()V"⟩
abbrev cX3_isNothing : ByteArray := prog_5_method_2_code
def yX3_isNothing : MethodName := ⟨RX3, "isNothing", "()Z"⟩
abbrev cX3_renew : ByteArray := prog_5_method_3_code
def yX3_renew : MethodName := ⟨RX3, "renew", "(II)V"⟩
abbrev cX3_put : ByteArray := prog_5_method_4_code
def yX3_put : MethodName := ⟨RX3, "put", "(II)Z"⟩
abbrev cX3_cell : ByteArray := prog_5_method_5_code
def yX3_cell : MethodName := ⟨RX3, "cell", "(I)I"⟩
abbrev cX3_faultOfLane : ByteArray := prog_5_method_6_code
def yX3_faultOfLane : MethodName := ⟨RX3, "faultOfLane", "(I)I"⟩
abbrev cX3_pairsFrom : ByteArray := prog_5_method_7_code
def yX3_pairsFrom : MethodName := ⟨RX3, "pairsFrom", "(I)I"⟩
def RX4 : String := "RowsColumns$Sheets"
def TX4 : u_T := fun k => match k with
  | _ => ("RowsColumns$Sheets", "all", "[LRowsColumns$Sheet;", true)
def tyX4 : Nat → FieldType := fun k => match k with
  | _ => .array (.object "RowsColumns$Sheet")
theorem nmX4 : ∀ a, a < 1 → ∀ b, b < 1 → a ≠ b → (TX4 a).2.1 ≠ (TX4 b).2.1 := by decide +kernel
theorem tyX4_ok : ∀ k, k < 1 → parseFieldDescriptor (TX4 k).2.2.1 = some (tyX4 k) := by decide +kernel
abbrev cX4_init : ByteArray := prog_6_method_1_code
def yX4_init : MethodName := ⟨RX4, "<init>", "()V"⟩
abbrev cX4_at : ByteArray := prog_6_method_2_code
def yX4_at : MethodName := ⟨RX4, "at", "(I)LRowsColumns$Sheet;"⟩
abbrev cX4_cellsOf : ByteArray := prog_6_method_3_code
def yX4_cellsOf : MethodName := ⟨RX4, "cellsOf", "(I)I"⟩
def RX5 : String := "RowsColumns$Tape"
def TX5 : u_T := fun k => match k with
  | 0 => ("RowsColumns$Tape", "length", "I", false)
  | _ => ("RowsColumns$Tape", "bytes", "[B", true)
def tyX5 : Nat → FieldType := fun k => match k with
  | 0 => .int
  | _ => .array .byte
theorem nmX5 : ∀ a, a < 2 → ∀ b, b < 2 → a ≠ b → (TX5 a).2.1 ≠ (TX5 b).2.1 := by decide +kernel
theorem tyX5_ok : ∀ k, k < 2 → parseFieldDescriptor (TX5 k).2.2.1 = some (tyX5 k) := by decide +kernel
abbrev cX5_init : ByteArray := prog_7_method_1_code
def yX5_init : MethodName := ⟨RX5, "<init>", "()V"⟩
abbrev cX5_add : ByteArray := prog_7_method_2_code
def yX5_add : MethodName := ⟨RX5, "add", "(J)Z"⟩
abbrev cX5_byteAt : ByteArray := prog_7_method_3_code
def yX5_byteAt : MethodName := ⟨RX5, "byteAt", "(I)I"⟩
def RX6 : String := "RowsColumns$Teller"
def TX6 : u_T := fun k => match k with
  | 0 => ("RowsColumns$Teller", "told", "LRowsColumns$Cloth;", true)
  | 1 => ("RowsColumns$Teller", "wished", "LRowsColumns$Cloth;", true)
  | 2 => ("RowsColumns$Teller", "days", "LRowsColumns$Days;", true)
  | 3 => ("RowsColumns$Teller", "fault", "I", false)
  | 4 => ("RowsColumns$Teller", "tape", "LRowsColumns$Tape;", true)
  | 5 => ("RowsColumns$Teller", "place", "I", false)
  | 6 => ("RowsColumns$Teller", "token", "I", false)
  | 7 => ("RowsColumns$Teller", "first", "I", false)
  | 8 => ("RowsColumns$Teller", "next", "I", false)
  | _ => ("RowsColumns$Teller", "value", "I", false)
def tyX6 : Nat → FieldType := fun k => match k with
  | 0 => .object "RowsColumns$Cloth"
  | 1 => .object "RowsColumns$Cloth"
  | 2 => .object "RowsColumns$Days"
  | 3 => .int
  | 4 => .object "RowsColumns$Tape"
  | 5 => .int
  | 6 => .int
  | 7 => .int
  | 8 => .int
  | _ => .int
theorem nmX6 : ∀ a, a < 10 → ∀ b, b < 10 → a ≠ b → (TX6 a).2.1 ≠ (TX6 b).2.1 := by decide +kernel
theorem tyX6_ok : ∀ k, k < 10 → parseFieldDescriptor (TX6 k).2.2.1 = some (tyX6 k) := by decide +kernel
abbrev cX6_init : ByteArray := prog_8_method_1_code
def yX6_init : MethodName := ⟨RX6, "<init>", "(LRowsColumns$Tape;)V"⟩
abbrev cX6_takeText : ByteArray := prog_8_method_2_code
def yX6_takeText : MethodName := ⟨RX6, "takeText", "()I"⟩
abbrev cX6_refuse : ByteArray := prog_8_method_3_code
def yX6_refuse : MethodName := ⟨RX6, "refuse", "(I)Z"⟩
abbrev cX6_takeLine : ByteArray := prog_8_method_4_code
def yX6_takeLine : MethodName := ⟨RX6, "takeLine", "()Z"⟩
abbrev cX6_takeRows : ByteArray := prog_8_method_5_code
def yX6_takeRows : MethodName := ⟨RX6, "takeRows", "(LRowsColumns$Cloth;)Z"⟩
abbrev cX6_takeRow : ByteArray := prog_8_method_6_code
def yX6_takeRow : MethodName := ⟨RX6, "takeRow", "(LRowsColumns$Cloth;)Z"⟩
abbrev cX6_takeDay : ByteArray := prog_8_method_7_code
def yX6_takeDay : MethodName := ⟨RX6, "takeDay", "()Z"⟩
abbrev cX6_takeNumber : ByteArray := prog_8_method_8_code
def yX6_takeNumber : MethodName := ⟨RX6, "takeNumber", "(I)Z"⟩
abbrev cX6_judgeWhole : ByteArray := prog_8_method_9_code
def yX6_judgeWhole : MethodName := ⟨RX6, "judgeWhole", "()V"⟩
abbrev cX6_kindNamed : ByteArray := prog_8_method_10_code
def yX6_kindNamed : MethodName := ⟨RX6, "kindNamed", "()I"⟩
abbrev cX6_isNamed : ByteArray := prog_8_method_11_code
def yX6_isNamed : MethodName := ⟨RX6, "isNamed", "(Ljava/lang/String;)Z"⟩
abbrev cX6_isRow : ByteArray := prog_8_method_12_code
def yX6_isRow : MethodName := ⟨RX6, "isRow", "()Z"⟩
abbrev cX6_step : ByteArray := prog_8_method_13_code
def yX6_step : MethodName := ⟨RX6, "step", "()V"⟩
abbrev cX6_stepNumber : ByteArray := prog_8_method_14_code
def yX6_stepNumber : MethodName := ⟨RX6, "stepNumber", "()V"⟩
abbrev cX6_isLetter : ByteArray := prog_8_method_15_code
def yX6_isLetter : MethodName := ⟨RX6, "isLetter", "(I)Z"⟩
abbrev cX6_isFigure : ByteArray := prog_8_method_16_code
def yX6_isFigure : MethodName := ⟨RX6, "isFigure", "(I)Z"⟩
def RX7 : String := "RowsColumns$Way"
def TX7 : u_T := fun k => match k with
  | 0 => ("RowsColumns$Way", "found", "Z", false)
  | 1 => ("RowsColumns$Way", "rows", "I", false)
  | 2 => ("RowsColumns$Way", "columns", "I", false)
  | 3 => ("RowsColumns$Way", "slants", "I", false)
  | 4 => ("RowsColumns$Way", "unlike", "I", false)
  | 5 => ("RowsColumns$Way", "days", "I", false)
  | 6 => ("RowsColumns$Way", "many", "I", false)
  | 7 => ("RowsColumns$Way", "first", "I", false)
  | 8 => ("RowsColumns$Way", "slantSets", "[J", true)
  | _ => ("RowsColumns$Way", "squareForms", "[J", true)
def tyX7 : Nat → FieldType := fun k => match k with
  | 0 => .boolean
  | 1 => .int
  | 2 => .int
  | 3 => .int
  | 4 => .int
  | 5 => .int
  | 6 => .int
  | 7 => .int
  | 8 => .array .long
  | _ => .array .long
theorem nmX7 : ∀ a, a < 10 → ∀ b, b < 10 → a ≠ b → (TX7 a).2.1 ≠ (TX7 b).2.1 := by decide +kernel
theorem tyX7_ok : ∀ k, k < 10 → parseFieldDescriptor (TX7 k).2.2.1 = some (tyX7 k) := by decide +kernel
abbrev cX7_init : ByteArray := prog_9_method_1_code
def yX7_init : MethodName := ⟨RX7, "<init>", "()V"⟩
abbrev cX7_acts : ByteArray := prog_9_method_2_code
def yX7_acts : MethodName := ⟨RX7, "acts", "()I"⟩
abbrev cX7_take : ByteArray := prog_9_method_3_code
def yX7_take : MethodName := ⟨RX7, "take", "(III)V"⟩
abbrev cX7_findPlan : ByteArray := prog_9_method_4_code
def yX7_findPlan : MethodName := ⟨RX7, "findPlan", "(LRowsColumns$Cloth;J)V"⟩
abbrev cX7_findNearest : ByteArray := prog_9_method_5_code
def yX7_findNearest : MethodName := ⟨RX7, "findNearest", "(LRowsColumns$Cloth;J)V"⟩
abbrev cX7_tryRows : ByteArray := prog_9_method_6_code
def yX7_tryRows : MethodName := ⟨RX7, "tryRows", "(LRowsColumns$Cloth;IJ)V"⟩
abbrev cX7_goBlind : ByteArray := prog_9_method_7_code
def yX7_goBlind : MethodName := ⟨RX7, "goBlind", "(LRowsColumns$Cloth;J)V"⟩
abbrev cX7_mostUnlike : ByteArray := prog_9_method_8_code
def yX7_mostUnlike : MethodName := ⟨RX7, "mostUnlike", "(LRowsColumns$Cloth;IJ)I"⟩
abbrev cX7_findSlanted : ByteArray := prog_9_method_9_code
def yX7_findSlanted : MethodName := ⟨RX7, "findSlanted", "(LRowsColumns$Cloth;J)V"⟩
abbrev cX7_trySlants : ByteArray := prog_9_method_10_code
def yX7_trySlants : MethodName := ⟨RX7, "trySlants", "(IIJ)V"⟩
abbrev cX7_slantsThatMake : ByteArray := prog_9_method_11_code
def yX7_slantsThatMake : MethodName := ⟨RX7, "slantsThatMake", "(J)I"⟩
abbrev cX7_findSpoilt : ByteArray := prog_9_method_12_code
def yX7_findSpoilt : MethodName := ⟨RX7, "findSpoilt", "(LRowsColumns$Cloth;J)V"⟩
abbrev cX7_findBothSpoilt : ByteArray := prog_9_method_13_code
def yX7_findBothSpoilt : MethodName := ⟨RX7, "findBothSpoilt", "(LRowsColumns$Cloth;J)V"⟩
abbrev cX7_pairWith : ByteArray := prog_9_method_14_code
def yX7_pairWith : MethodName := ⟨RX7, "pairWith", "(LRowsColumns$Cloth;IJ)V"⟩
def RX8 : String := "RowsColumns"
def TX8 : u_T := fun k => match k with
  | 0 => ("RowsColumns", "cloth", "LRowsColumns$Cloth;", true)
  | 1 => ("RowsColumns", "pattern", "LRowsColumns$Cloth;", true)
  | 2 => ("RowsColumns", "firstImage", "LRowsColumns$Cloth;", true)
  | 3 => ("RowsColumns", "secondImage", "LRowsColumns$Cloth;", true)
  | 4 => ("RowsColumns", "scratch", "LRowsColumns$Cloth;", true)
  | 5 => ("RowsColumns", "days", "LRowsColumns$Days;", true)
  | 6 => ("RowsColumns", "tape", "LRowsColumns$Tape;", true)
  | 7 => ("RowsColumns", "teller", "LRowsColumns$Teller;", true)
  | 8 => ("RowsColumns", "sheets", "LRowsColumns$Sheets;", true)
  | 9 => ("RowsColumns", "way", "LRowsColumns$Way;", true)
  | 10 => ("RowsColumns", "ownName", "LRowsColumns$Name;", true)
  | 11 => ("RowsColumns", "otherName", "LRowsColumns$Name;", true)
  | 12 => ("RowsColumns", "independent", "[J", true)
  | 13 => ("RowsColumns", "latestFault", "I", false)
  | _ => ("RowsColumns", "latestTorn", "I", false)
def tyX8 : Nat → FieldType := fun k => match k with
  | 0 => .object "RowsColumns$Cloth"
  | 1 => .object "RowsColumns$Cloth"
  | 2 => .object "RowsColumns$Cloth"
  | 3 => .object "RowsColumns$Cloth"
  | 4 => .object "RowsColumns$Cloth"
  | 5 => .object "RowsColumns$Days"
  | 6 => .object "RowsColumns$Tape"
  | 7 => .object "RowsColumns$Teller"
  | 8 => .object "RowsColumns$Sheets"
  | 9 => .object "RowsColumns$Way"
  | 10 => .object "RowsColumns$Name"
  | 11 => .object "RowsColumns$Name"
  | 12 => .array .long
  | 13 => .int
  | _ => .int
theorem nmX8 : ∀ a, a < 15 → ∀ b, b < 15 → a ≠ b → (TX8 a).2.1 ≠ (TX8 b).2.1 := by decide +kernel
theorem tyX8_ok : ∀ k, k < 15 → parseFieldDescriptor (TX8 k).2.2.1 = some (tyX8 k) := by decide +kernel
abbrev cX8_init : ByteArray := prog_1_method_1_code
def yX8_init : MethodName := ⟨RX8, "<init>", "()V"⟩
abbrev cX8_feed : ByteArray := prog_1_method_2_code
def yX8_feed : MethodName := ⟨RX8, "feed", "(J)I"⟩
abbrev cX8_end : ByteArray := prog_1_method_3_code
def yX8_end : MethodName := ⟨RX8, "end", "(I)I"⟩
abbrev cX8_text : ByteArray := prog_1_method_4_code
def yX8_text : MethodName := ⟨RX8, "text", "()I"⟩
abbrev cX8_fault : ByteArray := prog_1_method_5_code
def yX8_fault : MethodName := ⟨RX8, "fault", "()I"⟩
abbrev cX8_rule : ByteArray := prog_1_method_6_code
def yX8_rule : MethodName := ⟨RX8, "rule", "(I)I"⟩
abbrev cX8_day : ByteArray := prog_1_method_7_code
def yX8_day : MethodName := ⟨RX8, "day", "(II)I"⟩
abbrev cX8_cloth : ByteArray := prog_1_method_8_code
def yX8_cloth : MethodName := ⟨RX8, "cloth", "(I)J"⟩
abbrev cX8_square : ByteArray := prog_1_method_9_code
def yX8_square : MethodName := ⟨RX8, "square", "(II)I"⟩
abbrev cX8_paint : ByteArray := prog_1_method_10_code
def yX8_paint : MethodName := ⟨RX8, "paint", "(IIZ)I"⟩
abbrev cX8_wish : ByteArray := prog_1_method_11_code
def yX8_wish : MethodName := ⟨RX8, "wish", "(IIZ)I"⟩
abbrev cX8_act : ByteArray := prog_1_method_12_code
def yX8_act : MethodName := ⟨RX8, "act", "(II)I"⟩
abbrev cX8_turn : ByteArray := prog_1_method_13_code
def yX8_turn : MethodName := ⟨RX8, "turn", "(II)I"⟩
abbrev cX8_go : ByteArray := prog_1_method_14_code
def yX8_go : MethodName := ⟨RX8, "go", "(I)I"⟩
abbrev cX8_form : ByteArray := prog_1_method_15_code
def yX8_form : MethodName := ⟨RX8, "form", "(I)J"⟩
abbrev cX8_forms : ByteArray := prog_1_method_16_code
def yX8_forms : MethodName := ⟨RX8, "forms", "()J"⟩
abbrev cX8_alike : ByteArray := prog_1_method_17_code
def yX8_alike : MethodName := ⟨RX8, "alike", "(I)I"⟩
abbrev cX8_plan : ByteArray := prog_1_method_18_code
def yX8_plan : MethodName := ⟨RX8, "plan", "(I)I"⟩
abbrev cX8_nearest : ByteArray := prog_1_method_19_code
def yX8_nearest : MethodName := ⟨RX8, "nearest", "(I)I"⟩
abbrev cX8_lightest : ByteArray := prog_1_method_20_code
def yX8_lightest : MethodName := ⟨RX8, "lightest", "(I)I"⟩
abbrev cX8_blind : ByteArray := prog_1_method_21_code
def yX8_blind : MethodName := ⟨RX8, "blind", "(I)I"⟩
abbrev cX8_slanted : ByteArray := prog_1_method_22_code
def yX8_slanted : MethodName := ⟨RX8, "slanted", "(I)I"⟩
abbrev cX8_power : ByteArray := prog_1_method_23_code
def yX8_power : MethodName := ⟨RX8, "power", "(I)I"⟩
abbrev cX8_duel : ByteArray := prog_1_method_24_code
def yX8_duel : MethodName := ⟨RX8, "duel", "(IZI)I"⟩
abbrev cX8_turned : ByteArray := prog_1_method_25_code
def yX8_turned : MethodName := ⟨RX8, "turned", "(II)I"⟩
abbrev cX8_spoilt : ByteArray := prog_1_method_26_code
def yX8_spoilt : MethodName := ⟨RX8, "spoilt", "(I)I"⟩
abbrev cX8_both : ByteArray := prog_1_method_27_code
def yX8_both : MethodName := ⟨RX8, "both", "(I)I"⟩
abbrev cX8_rotate : ByteArray := prog_1_method_28_code
def yX8_rotate : MethodName := ⟨RX8, "rotate", "(I)I"⟩
abbrev cX8_cut : ByteArray := prog_1_method_29_code
def yX8_cut : MethodName := ⟨RX8, "cut", "(IIII)I"⟩
abbrev cX8_sew : ByteArray := prog_1_method_30_code
def yX8_sew : MethodName := ⟨RX8, "sew", "(IZ)I"⟩
abbrev cX8_name : ByteArray := prog_1_method_31_code
def yX8_name : MethodName := ⟨RX8, "name", "(I)J"⟩
abbrev cX8_cousin : ByteArray := prog_1_method_32_code
def yX8_cousin : MethodName := ⟨RX8, "cousin", "(I)I"⟩
abbrev cX8_keep : ByteArray := prog_1_method_33_code
def yX8_keep : MethodName := ⟨RX8, "keep", "(I)I"⟩
abbrev cX8_back : ByteArray := prog_1_method_34_code
def yX8_back : MethodName := ⟨RX8, "back", "(I)I"⟩
abbrev cX8_sheet : ByteArray := prog_1_method_35_code
def yX8_sheet : MethodName := ⟨RX8, "sheet", "(III)I"⟩
abbrev cX8_lay : ByteArray := prog_1_method_36_code
def yX8_lay : MethodName := ⟨RX8, "lay", "(III)I"⟩
abbrev cX8_read : ByteArray := prog_1_method_37_code
def yX8_read : MethodName := ⟨RX8, "read", "(IIII)I"⟩
abbrev cX8_torn : ByteArray := prog_1_method_38_code
def yX8_torn : MethodName := ⟨RX8, "torn", "()I"⟩
abbrev cX8_count : ByteArray := prog_1_method_39_code
def yX8_count : MethodName := ⟨RX8, "count", "(I)I"⟩
abbrev cX8_imageOf : ByteArray := prog_1_method_40_code
def yX8_imageOf : MethodName := ⟨RX8, "imageOf", "(I)LRowsColumns$Cloth;"⟩
abbrev cX8_forgetPlans : ByteArray := prog_1_method_41_code
def yX8_forgetPlans : MethodName := ⟨RX8, "forgetPlans", "()V"⟩
abbrev cX8_toldOf : ByteArray := prog_1_method_42_code
def yX8_toldOf : MethodName := ⟨RX8, "toldOf", "(II)I"⟩
abbrev cX8_spoiltTold : ByteArray := prog_1_method_43_code
def yX8_spoiltTold : MethodName := ⟨RX8, "spoiltTold", "(I)I"⟩
abbrev cX8_isPart : ByteArray := prog_1_method_44_code
def yX8_isPart : MethodName := ⟨RX8, "isPart", "(III)Z"⟩
abbrev cX8_isLane : ByteArray := prog_1_method_45_code
def yX8_isLane : MethodName := ⟨RX8, "isLane", "(I)Z"⟩
abbrev cX8_isBetter : ByteArray := prog_1_method_46_code
def yX8_isBetter : MethodName := ⟨RX8, "isBetter", "(ZII)Z"⟩
abbrev cX8_endOfDuel : ByteArray := prog_1_method_47_code
def yX8_endOfDuel : MethodName := ⟨RX8, "endOfDuel", "(LRowsColumns$Cloth;JIZ)I"⟩
abbrev cX8_independentLines : ByteArray := prog_1_method_48_code
def yX8_independentLines : MethodName := ⟨RX8, "independentLines", "(I)I"⟩
def RX9 : String := "RowsColumnsModel"
def TX9 : u_T := fun k => match k with
  | 0 => ("RowsColumnsModel", "high", "I", false)
  | 1 => ("RowsColumnsModel", "wide", "I", false)
  | 2 => ("RowsColumnsModel", "cloth", "J", false)
  | 3 => ("RowsColumnsModel", "pattern", "J", false)
  | 4 => ("RowsColumnsModel", "hasPattern", "Z", false)
  | 5 => ("RowsColumnsModel", "days", "I", false)
  | 6 => ("RowsColumnsModel", "day", "[I", true)
  | 7 => ("RowsColumnsModel", "image", "[J", true)
  | 8 => ("RowsColumnsModel", "imageHigh", "[I", true)
  | 9 => ("RowsColumnsModel", "imageWide", "[I", true)
  | 10 => ("RowsColumnsModel", "dHigh", "I", false)
  | 11 => ("RowsColumnsModel", "dWide", "I", false)
  | 12 => ("RowsColumnsModel", "dCloth", "J", false)
  | 13 => ("RowsColumnsModel", "pHigh", "I", false)
  | 14 => ("RowsColumnsModel", "pWide", "I", false)
  | 15 => ("RowsColumnsModel", "dPattern", "J", false)
  | 16 => ("RowsColumnsModel", "hasCloth", "Z", false)
  | 17 => ("RowsColumnsModel", "dHasPattern", "Z", false)
  | 18 => ("RowsColumnsModel", "dDays", "I", false)
  | 19 => ("RowsColumnsModel", "dDay", "[I", true)
  | 20 => ("RowsColumnsModel", "tape", "[I", true)
  | 21 => ("RowsColumnsModel", "taped", "I", false)
  | 22 => ("RowsColumnsModel", "pos", "I", false)
  | 23 => ("RowsColumnsModel", "from", "I", false)
  | 24 => ("RowsColumnsModel", "sort", "I", false)
  | 25 => ("RowsColumnsModel", "value", "I", false)
  | 26 => ("RowsColumnsModel", "fault", "I", false)
  | 27 => ("RowsColumnsModel", "wrongAt", "I", false)
  | 28 => ("RowsColumnsModel", "rowsRead", "I", false)
  | 29 => ("RowsColumnsModel", "wideRead", "I", false)
  | 30 => ("RowsColumnsModel", "setRead", "J", false)
  | 31 => ("RowsColumnsModel", "planRows", "I", false)
  | 32 => ("RowsColumnsModel", "planColumns", "I", false)
  | 33 => ("RowsColumnsModel", "nearMany", "I", false)
  | 34 => ("RowsColumnsModel", "nearRows", "I", false)
  | 35 => ("RowsColumnsModel", "nearColumns", "I", false)
  | 36 => ("RowsColumnsModel", "base", "[J", true)
  | 37 => ("RowsColumnsModel", "worth", "[I", true)
  | 38 => ("RowsColumnsModel", "firstMove", "I", false)
  | 39 => ("RowsColumnsModel", "nameForm", "J", false)
  | 40 => ("RowsColumnsModel", "nameTurning", "I", false)
  | 41 => ("RowsColumnsModel", "nameHigh", "I", false)
  | 42 => ("RowsColumnsModel", "nameWide", "I", false)
  | 43 => ("RowsColumnsModel", "lanes", "[I", true)
  | 44 => ("RowsColumnsModel", "sizes", "[I", true)
  | 45 => ("RowsColumnsModel", "cells", "[I", true)
  | _ => ("RowsColumnsModel", "torn", "I", false)
def tyX9 : Nat → FieldType := fun k => match k with
  | 0 => .int
  | 1 => .int
  | 2 => .long
  | 3 => .long
  | 4 => .boolean
  | 5 => .int
  | 6 => .array .int
  | 7 => .array .long
  | 8 => .array .int
  | 9 => .array .int
  | 10 => .int
  | 11 => .int
  | 12 => .long
  | 13 => .int
  | 14 => .int
  | 15 => .long
  | 16 => .boolean
  | 17 => .boolean
  | 18 => .int
  | 19 => .array .int
  | 20 => .array .int
  | 21 => .int
  | 22 => .int
  | 23 => .int
  | 24 => .int
  | 25 => .int
  | 26 => .int
  | 27 => .int
  | 28 => .int
  | 29 => .int
  | 30 => .long
  | 31 => .int
  | 32 => .int
  | 33 => .int
  | 34 => .int
  | 35 => .int
  | 36 => .array .long
  | 37 => .array .int
  | 38 => .int
  | 39 => .long
  | 40 => .int
  | 41 => .int
  | 42 => .int
  | 43 => .array .int
  | 44 => .array .int
  | 45 => .array .int
  | _ => .int
theorem nmX9 : ∀ a, a < 47 → ∀ b, b < 47 → a ≠ b → (TX9 a).2.1 ≠ (TX9 b).2.1 := by decide +kernel
theorem tyX9_ok : ∀ k, k < 47 → parseFieldDescriptor (TX9 k).2.2.1 = some (tyX9 k) := by decide +kernel
abbrev cX9_init : ByteArray := prog_11_method_1_code
def yX9_init : MethodName := ⟨RX9, "<init>", "()V"⟩
abbrev cX9_in : ByteArray := prog_11_method_3_code
def yX9_in : MethodName := ⟨RX9, "in", "(JJJ)Z"⟩
abbrev cX9_flag : ByteArray := prog_11_method_4_code
def yX9_flag : MethodName := ⟨RX9, "flag", "(Z)I"⟩
abbrev cX9_bitOf : ByteArray := prog_11_method_5_code
def yX9_bitOf : MethodName := ⟨RX9, "bitOf", "(II)J"⟩
abbrev cX9_many : ByteArray := prog_11_method_6_code
def yX9_many : MethodName := ⟨RX9, "many", "(J)I"⟩
abbrev cX9_firstDraft : ByteArray := prog_11_method_7_code
def yX9_firstDraft : MethodName := ⟨RX9, "firstDraft", "()V"⟩
abbrev cX9_keepDraft : ByteArray := prog_11_method_8_code
def yX9_keepDraft : MethodName := ⟨RX9, "keepDraft", "()V"⟩
abbrev cX9_feed : ByteArray := prog_11_method_9_code
def yX9_feed : MethodName := ⟨RX9, "feed", "(J)I"⟩
abbrev cX9_end : ByteArray := prog_11_method_10_code
def yX9_end : MethodName := ⟨RX9, "end", "(I)I"⟩
abbrev cX9_needs : ByteArray := prog_11_method_11_code
def yX9_needs : MethodName := ⟨RX9, "needs", "(ZI)V"⟩
abbrev cX9_look : ByteArray := prog_11_method_12_code
def yX9_look : MethodName := ⟨RX9, "look", "(I)I"⟩
abbrev cX9_is : ByteArray := prog_11_method_13_code
def yX9_is : MethodName := ⟨RX9, "is", "(IIII)Z"⟩
abbrev cX9_goesOn : ByteArray := prog_11_method_14_code
def yX9_goesOn : MethodName := ⟨RX9, "goesOn", "(IIII)Z"⟩
abbrev cX9_lineNow : ByteArray := prog_11_method_15_code
def yX9_lineNow : MethodName := ⟨RX9, "lineNow", "()I"⟩
abbrev cX9_actNow : ByteArray := prog_11_method_16_code
def yX9_actNow : MethodName := ⟨RX9, "actNow", "()I"⟩
abbrev cX9_isRowName : ByteArray := prog_11_method_17_code
def yX9_isRowName : MethodName := ⟨RX9, "isRowName", "()Z"⟩
abbrev cX9_next : ByteArray := prog_11_method_18_code
def yX9_next : MethodName := ⟨RX9, "next", "()V"⟩
abbrev cX9_readRows : ByteArray := prog_11_method_19_code
def yX9_readRows : MethodName := ⟨RX9, "readRows", "()V"⟩
abbrev cX9_readAct : ByteArray := prog_11_method_20_code
def yX9_readAct : MethodName := ⟨RX9, "readAct", "(I)V"⟩
abbrev cX9_readDay : ByteArray := prog_11_method_21_code
def yX9_readDay : MethodName := ⟨RX9, "readDay", "()V"⟩
abbrev cX9_readLine : ByteArray := prog_11_method_22_code
def yX9_readLine : MethodName := ⟨RX9, "readLine", "()V"⟩
abbrev cX9_isActOf : ByteArray := prog_11_method_23_code
def yX9_isActOf : MethodName := ⟨RX9, "isActOf", "(IIII)Z"⟩
abbrev cX9_areActs : ByteArray := prog_11_method_24_code
def yX9_areActs : MethodName := ⟨RX9, "areActs", "()Z"⟩
abbrev cX9_text : ByteArray := prog_11_method_25_code
def yX9_text : MethodName := ⟨RX9, "text", "()I"⟩
abbrev cX9_fault : ByteArray := prog_11_method_26_code
def yX9_fault : MethodName := ⟨RX9, "fault", "()I"⟩
abbrev cX9_rule : ByteArray := prog_11_method_27_code
def yX9_rule : MethodName := ⟨RX9, "rule", "(I)I"⟩
abbrev cX9_day : ByteArray := prog_11_method_28_code
def yX9_day : MethodName := ⟨RX9, "day", "(II)I"⟩
abbrev cX9_cloth : ByteArray := prog_11_method_29_code
def yX9_cloth : MethodName := ⟨RX9, "cloth", "(I)J"⟩
abbrev cX9_isSquare : ByteArray := prog_11_method_30_code
def yX9_isSquare : MethodName := ⟨RX9, "isSquare", "(II)Z"⟩
abbrev cX9_isDark : ByteArray := prog_11_method_31_code
def yX9_isDark : MethodName := ⟨RX9, "isDark", "(JII)I"⟩
abbrev cX9_square : ByteArray := prog_11_method_32_code
def yX9_square : MethodName := ⟨RX9, "square", "(II)I"⟩
abbrev cX9_paint : ByteArray := prog_11_method_33_code
def yX9_paint : MethodName := ⟨RX9, "paint", "(IIZ)I"⟩
abbrev cX9_wish : ByteArray := prog_11_method_34_code
def yX9_wish : MethodName := ⟨RX9, "wish", "(IIZ)I"⟩
abbrev cX9_actSet : ByteArray := prog_11_method_35_code
def yX9_actSet : MethodName := ⟨RX9, "actSet", "(II)J"⟩
abbrev cX9_turnSet : ByteArray := prog_11_method_36_code
def yX9_turnSet : MethodName := ⟨RX9, "turnSet", "(II)J"⟩
abbrev cX9_isAct : ByteArray := prog_11_method_37_code
def yX9_isAct : MethodName := ⟨RX9, "isAct", "(II)Z"⟩
abbrev cX9_act : ByteArray := prog_11_method_38_code
def yX9_act : MethodName := ⟨RX9, "act", "(II)I"⟩
abbrev cX9_turn : ByteArray := prog_11_method_39_code
def yX9_turn : MethodName := ⟨RX9, "turn", "(II)I"⟩
abbrev cX9_go : ByteArray := prog_11_method_40_code
def yX9_go : MethodName := ⟨RX9, "go", "(I)I"⟩
abbrev cX9_formOf : ByteArray := prog_11_method_41_code
def yX9_formOf : MethodName := ⟨RX9, "formOf", "(JII)J"⟩
abbrev cX9_formNow : ByteArray := prog_11_method_42_code
def yX9_formNow : MethodName := ⟨RX9, "formNow", "(J)J"⟩
abbrev cX9_form : ByteArray := prog_11_method_43_code
def yX9_form : MethodName := ⟨RX9, "form", "(I)J"⟩
abbrev cX9_forms : ByteArray := prog_11_method_44_code
def yX9_forms : MethodName := ⟨RX9, "forms", "()J"⟩
abbrev cX9_isImage : ByteArray := prog_11_method_45_code
def yX9_isImage : MethodName := ⟨RX9, "isImage", "(I)Z"⟩
abbrev cX9_isKept : ByteArray := prog_11_method_46_code
def yX9_isKept : MethodName := ⟨RX9, "isKept", "(I)Z"⟩
abbrev cX9_isOfSize : ByteArray := prog_11_method_47_code
def yX9_isOfSize : MethodName := ⟨RX9, "isOfSize", "(I)Z"⟩
abbrev cX9_alike : ByteArray := prog_11_method_48_code
def yX9_alike : MethodName := ⟨RX9, "alike", "(I)I"⟩
abbrev cX9_findPlan : ByteArray := prog_11_method_49_code
def yX9_findPlan : MethodName := ⟨RX9, "findPlan", "(J)Z"⟩
abbrev cX9_planTold : ByteArray := prog_11_method_50_code
def yX9_planTold : MethodName := ⟨RX9, "planTold", "(I)I"⟩
abbrev cX9_plan : ByteArray := prog_11_method_51_code
def yX9_plan : MethodName := ⟨RX9, "plan", "(I)I"⟩
abbrev cX9_findNearest : ByteArray := prog_11_method_52_code
def yX9_findNearest : MethodName := ⟨RX9, "findNearest", "(J)V"⟩
abbrev cX9_nearTold : ByteArray := prog_11_method_53_code
def yX9_nearTold : MethodName := ⟨RX9, "nearTold", "(I)I"⟩
abbrev cX9_nearest : ByteArray := prog_11_method_54_code
def yX9_nearest : MethodName := ⟨RX9, "nearest", "(I)I"⟩
abbrev cX9_lightest : ByteArray := prog_11_method_55_code
def yX9_lightest : MethodName := ⟨RX9, "lightest", "(I)I"⟩
abbrev cX9_mostOf : ByteArray := prog_11_method_56_code
def yX9_mostOf : MethodName := ⟨RX9, "mostOf", "(JI)I"⟩
abbrev cX9_blind : ByteArray := prog_11_method_57_code
def yX9_blind : MethodName := ⟨RX9, "blind", "(I)I"⟩
abbrev cX9_isBefore : ByteArray := prog_11_method_58_code
def yX9_isBefore : MethodName := ⟨RX9, "isBefore", "(IIIIIIII)Z"⟩
abbrev cX9_slanted : ByteArray := prog_11_method_59_code
def yX9_slanted : MethodName := ⟨RX9, "slanted", "(I)I"⟩
abbrev cX9_isNew : ByteArray := prog_11_method_60_code
def yX9_isNew : MethodName := ⟨RX9, "isNew", "(J)Z"⟩
abbrev cX9_power : ByteArray := prog_11_method_61_code
def yX9_power : MethodName := ⟨RX9, "power", "(I)I"⟩
abbrev cX9_isMove : ByteArray := prog_11_method_62_code
def yX9_isMove : MethodName := ⟨RX9, "isMove", "(ZI)Z"⟩
abbrev cX9_worthOf : ByteArray := prog_11_method_63_code
def yX9_worthOf : MethodName := ⟨RX9, "worthOf", "(IIZ)I"⟩
abbrev cX9_best : ByteArray := prog_11_method_64_code
def yX9_best : MethodName := ⟨RX9, "best", "(IZ)I"⟩
abbrev cX9_duel : ByteArray := prog_11_method_65_code
def yX9_duel : MethodName := ⟨RX9, "duel", "(IZI)I"⟩
abbrev cX9_turned : ByteArray := prog_11_method_66_code
def yX9_turned : MethodName := ⟨RX9, "turned", "(II)I"⟩
abbrev cX9_spoilt : ByteArray := prog_11_method_67_code
def yX9_spoilt : MethodName := ⟨RX9, "spoilt", "(I)I"⟩
abbrev cX9_both : ByteArray := prog_11_method_68_code
def yX9_both : MethodName := ⟨RX9, "both", "(I)I"⟩
abbrev cX9_mirrored : ByteArray := prog_11_method_69_code
def yX9_mirrored : MethodName := ⟨RX9, "mirrored", "(JII)J"⟩
abbrev cX9_quarter : ByteArray := prog_11_method_70_code
def yX9_quarter : MethodName := ⟨RX9, "quarter", "(JII)J"⟩
abbrev cX9_rotated : ByteArray := prog_11_method_71_code
def yX9_rotated : MethodName := ⟨RX9, "rotated", "(JIII)J"⟩
abbrev cX9_endsPattern : ByteArray := prog_11_method_72_code
def yX9_endsPattern : MethodName := ⟨RX9, "endsPattern", "()V"⟩
abbrev cX9_rotate : ByteArray := prog_11_method_73_code
def yX9_rotate : MethodName := ⟨RX9, "rotate", "(I)I"⟩
abbrev cX9_cut : ByteArray := prog_11_method_74_code
def yX9_cut : MethodName := ⟨RX9, "cut", "(IIII)I"⟩
abbrev cX9_sew : ByteArray := prog_11_method_75_code
def yX9_sew : MethodName := ⟨RX9, "sew", "(IZ)I"⟩
abbrev cX9_findName : ByteArray := prog_11_method_76_code
def yX9_findName : MethodName := ⟨RX9, "findName", "(JII)V"⟩
abbrev cX9_name : ByteArray := prog_11_method_77_code
def yX9_name : MethodName := ⟨RX9, "name", "(I)J"⟩
abbrev cX9_cousin : ByteArray := prog_11_method_78_code
def yX9_cousin : MethodName := ⟨RX9, "cousin", "(I)I"⟩
abbrev cX9_keep : ByteArray := prog_11_method_79_code
def yX9_keep : MethodName := ⟨RX9, "keep", "(I)I"⟩
abbrev cX9_back : ByteArray := prog_11_method_80_code
def yX9_back : MethodName := ⟨RX9, "back", "(I)I"⟩
abbrev cX9_isSheet : ByteArray := prog_11_method_81_code
def yX9_isSheet : MethodName := ⟨RX9, "isSheet", "(II)Z"⟩
abbrev cX9_sheet : ByteArray := prog_11_method_82_code
def yX9_sheet : MethodName := ⟨RX9, "sheet", "(III)I"⟩
abbrev cX9_lay : ByteArray := prog_11_method_83_code
def yX9_lay : MethodName := ⟨RX9, "lay", "(III)I"⟩
abbrev cX9_read : ByteArray := prog_11_method_84_code
def yX9_read : MethodName := ⟨RX9, "read", "(IIII)I"⟩
abbrev cX9_torn : ByteArray := prog_11_method_85_code
def yX9_torn : MethodName := ⟨RX9, "torn", "()I"⟩
abbrev cX9_count : ByteArray := prog_11_method_86_code
def yX9_count : MethodName := ⟨RX9, "count", "(I)I"⟩
def RJ6 : String := "java/lang/Integer"
abbrev cJ6_bitCount_0f7a4 : ByteArray := prog_12_method_49_code
def yJ6_bitCount_0f7a4 : MethodName := ⟨RJ6, "bitCount", "(I)I"⟩
def RJ13 : String := "java/lang/Long"
abbrev cJ13_bitCount_95d88 : ByteArray := prog_13_method_50_code
def yJ13_bitCount_95d88 : MethodName := ⟨RJ13, "bitCount", "(J)I"⟩
def RJ9 : String := "java/lang/Math"
abbrev cJ9_max_7cf53 : ByteArray := prog_14_method_65_code
def yJ9_max_7cf53 : MethodName := ⟨RJ9, "max", "(II)I"⟩
abbrev cJ9_min_7cf53 : ByteArray := prog_14_method_69_code
def yJ9_min_7cf53 : MethodName := ⟨RJ9, "min", "(II)I"⟩
def RJ0 : String := "java/lang/String"
abbrev cJ0_length_8abf5 : ByteArray := prog_15_method_54_code
def yJ0_length_8abf5 : MethodName := ⟨RJ0, "length", "()I"⟩
abbrev cJ0_charAt_5068e : ByteArray := prog_15_method_56_code
def yJ0_charAt_5068e : MethodName := ⟨RJ0, "charAt", "(I)C"⟩
abbrev cJ0_coder_7d493 : ByteArray := prog_15_method_152_code
def yJ0_coder_7d493 : MethodName := ⟨RJ0, "coder", "()B"⟩
abbrev cJ0_isLatin1_aae02 : ByteArray := prog_15_method_154_code
def yJ0_isLatin1_aae02 : MethodName := ⟨RJ0, "isLatin1", "()Z"⟩
abbrev cJ0_checkIndex_df160 : ByteArray := prog_15_method_155_code
def yJ0_checkIndex_df160 : MethodName := ⟨RJ0, "checkIndex", "(II)V"⟩
def RJ1 : String := "java/lang/StringLatin1"
abbrev cJ1_charAt_3b067 : ByteArray := prog_16_method_2_code
def yJ1_charAt_3b067 : MethodName := ⟨RJ1, "charAt", "([BI)C"⟩
def RJ2 : String := "java/lang/StringUTF16"
abbrev cJ2_getChar_3b067 : ByteArray := prog_17_method_5_code
def yJ2_getChar_3b067 : MethodName := ⟨RJ2, "getChar", "([BI)C"⟩
abbrev cJ2_length_9d52b : ByteArray := prog_17_method_6_code
def yJ2_length_9d52b : MethodName := ⟨RJ2, "length", "([B)I"⟩
abbrev cJ2_charAt_3b067 : ByteArray := prog_17_method_83_code
def yJ2_charAt_3b067 : MethodName := ⟨RJ2, "charAt", "([BI)C"⟩
abbrev cJ2_checkIndex_2214a : ByteArray := prog_17_method_91_code
def yJ2_checkIndex_2214a : MethodName := ⟨RJ2, "checkIndex", "(I[B)V"⟩
def RJ3 : String := "jdk/internal/util/Preconditions"
abbrev cJ3_checkIndex_8e157 : ByteArray := prog_18_method_11_code
def yJ3_checkIndex_8e157 : MethodName := ⟨RJ3, "checkIndex", "(IILjava/util/function/BiFunction;)I"⟩
def RL : String := "RowsColumnsLaw"
abbrev cL_law : ByteArray := code
def yL_law : MethodName := ⟨RL, "law", "([I)Z"⟩
abbrev classes : List vw_C := [(RX0, TX0, 4), (RX1, TX1, 3), (RX2, TX2, 4), (RX3, TX3, 3), (RX4, TX4, 1), (RX5, TX5, 2), (RX6, TX6, 10), (RX7, TX7, 10), (RX8, TX8, 15), (RX9, TX9, 47)]
def tyC (c : Nat) : Nat → FieldType := match c with
  | 0 => tyX0
  | 1 => tyX1
  | 2 => tyX2
  | 3 => tyX3
  | 4 => tyX4
  | 5 => tyX5
  | 6 => tyX6
  | 7 => tyX7
  | 8 => tyX8
  | _ => tyX9
theorem uw_X0 : ∀ j, j < 4 → u_lay RX0 TX0 j ∈ lw_tbl := fun j hj => match j, hj with
  | 0, _ => (mt1 _ (List.mem_of_getElem? (i := 49) rfl))
  | 1, _ => (mt1 _ (List.mem_of_getElem? (i := 51) rfl))
  | 2, _ => (mt1 _ (List.mem_of_getElem? (i := 53) rfl))
  | 3, _ => (mt1 _ (List.mem_of_getElem? (i := 55) rfl))
  | j + 4, hj => absurd hj (by omega)
theorem uw_X1 : ∀ j, j < 3 → u_lay RX1 TX1 j ∈ lw_tbl := fun j hj => match j, hj with
  | 0, _ => (mt1 _ (List.mem_of_getElem? (i := 69) rfl))
  | 1, _ => (mt1 _ (List.mem_of_getElem? (i := 71) rfl))
  | 2, _ => (mt1 _ (List.mem_of_getElem? (i := 73) rfl))
  | j + 3, hj => absurd hj (by omega)
theorem uw_X2 : ∀ j, j < 4 → u_lay RX2 TX2 j ∈ lw_tbl := fun j hj => match j, hj with
  | 0, _ => (mt1 _ (List.mem_of_getElem? (i := 224) rfl))
  | 1, _ => (mt1 _ (List.mem_of_getElem? (i := 226) rfl))
  | 2, _ => (mt1 _ (List.mem_of_getElem? (i := 228) rfl))
  | 3, _ => (mt1 _ (List.mem_of_getElem? (i := 230) rfl))
  | j + 4, hj => absurd hj (by omega)
theorem uw_X3 : ∀ j, j < 3 → u_lay RX3 TX3 j ∈ lw_tbl := fun j hj => match j, hj with
  | 0, _ => (mt1 _ (List.mem_of_getElem? (i := 155) rfl))
  | 1, _ => (mt1 _ (List.mem_of_getElem? (i := 157) rfl))
  | 2, _ => (mt1 _ (List.mem_of_getElem? (i := 159) rfl))
  | j + 3, hj => absurd hj (by omega)
theorem uw_X4 : ∀ j, j < 1 → u_lay RX4 TX4 j ∈ lw_tbl := fun j hj => match j, hj with
  | 0, _ => (mt1 _ (List.mem_of_getElem? (i := 163) rfl))
  | j + 1, hj => absurd hj (by omega)
theorem uw_X5 : ∀ j, j < 2 → u_lay RX5 TX5 j ∈ lw_tbl := fun j hj => match j, hj with
  | 0, _ => (mt1 _ (List.mem_of_getElem? (i := 87) rfl))
  | 1, _ => (mt1 _ (List.mem_of_getElem? (i := 89) rfl))
  | j + 2, hj => absurd hj (by omega)
theorem uw_X6 : ∀ j, j < 10 → u_lay RX6 TX6 j ∈ lw_tbl := fun j hj => match j, hj with
  | 0, _ => (mt1 _ (List.mem_of_getElem? (i := 117) rfl))
  | 1, _ => (mt1 _ (List.mem_of_getElem? (i := 119) rfl))
  | 2, _ => (mt1 _ (List.mem_of_getElem? (i := 121) rfl))
  | 3, _ => (mt1 _ (List.mem_of_getElem? (i := 123) rfl))
  | 4, _ => (mt1 _ (List.mem_of_getElem? (i := 125) rfl))
  | 5, _ => (mt1 _ (List.mem_of_getElem? (i := 127) rfl))
  | 6, _ => (mt1 _ (List.mem_of_getElem? (i := 129) rfl))
  | 7, _ => (mt1 _ (List.mem_of_getElem? (i := 131) rfl))
  | 8, _ => (mt1 _ (List.mem_of_getElem? (i := 133) rfl))
  | 9, _ => (mt1 _ (List.mem_of_getElem? (i := 135) rfl))
  | j + 10, hj => absurd hj (by omega)
theorem uw_X7 : ∀ j, j < 10 → u_lay RX7 TX7 j ∈ lw_tbl := fun j hj => match j, hj with
  | 0, _ => (mt1 _ (List.mem_of_getElem? (i := 190) rfl))
  | 1, _ => (mt1 _ (List.mem_of_getElem? (i := 192) rfl))
  | 2, _ => (mt1 _ (List.mem_of_getElem? (i := 194) rfl))
  | 3, _ => (mt1 _ (List.mem_of_getElem? (i := 196) rfl))
  | 4, _ => (mt1 _ (List.mem_of_getElem? (i := 198) rfl))
  | 5, _ => (mt1 _ (List.mem_of_getElem? (i := 200) rfl))
  | 6, _ => (mt1 _ (List.mem_of_getElem? (i := 202) rfl))
  | 7, _ => (mt1 _ (List.mem_of_getElem? (i := 204) rfl))
  | 8, _ => (mt1 _ (List.mem_of_getElem? (i := 206) rfl))
  | 9, _ => (mt1 _ (List.mem_of_getElem? (i := 208) rfl))
  | j + 10, hj => absurd hj (by omega)
theorem uw_X8 : ∀ j, j < 15 → u_lay RX8 TX8 j ∈ lw_tbl := fun j hj => match j, hj with
  | 0, _ => (mt2 _ (List.mem_of_getElem? (i := 8) rfl))
  | 1, _ => (mt2 _ (List.mem_of_getElem? (i := 10) rfl))
  | 2, _ => (mt2 _ (List.mem_of_getElem? (i := 12) rfl))
  | 3, _ => (mt2 _ (List.mem_of_getElem? (i := 14) rfl))
  | 4, _ => (mt2 _ (List.mem_of_getElem? (i := 16) rfl))
  | 5, _ => (mt2 _ (List.mem_of_getElem? (i := 18) rfl))
  | 6, _ => (mt2 _ (List.mem_of_getElem? (i := 20) rfl))
  | 7, _ => (mt2 _ (List.mem_of_getElem? (i := 22) rfl))
  | 8, _ => (mt2 _ (List.mem_of_getElem? (i := 24) rfl))
  | 9, _ => (mt2 _ (List.mem_of_getElem? (i := 26) rfl))
  | 10, _ => (mt2 _ (List.mem_of_getElem? (i := 28) rfl))
  | 11, _ => (mt2 _ (List.mem_of_getElem? (i := 30) rfl))
  | 12, _ => (mt2 _ (List.mem_of_getElem? (i := 32) rfl))
  | 13, _ => (mt2 _ (List.mem_of_getElem? (i := 34) rfl))
  | 14, _ => (mt2 _ (List.mem_of_getElem? (i := 36) rfl))
  | j + 15, hj => absurd hj (by omega)
theorem uw_X9 : ∀ j, j < 47 → u_lay RX9 TX9 j ∈ lw_tbl := fun j hj => match j, hj with
  | 0, _ => (mt4 _ (List.mem_of_getElem? (i := 195) rfl))
  | 1, _ => (mt4 _ (List.mem_of_getElem? (i := 197) rfl))
  | 2, _ => (mt4 _ (List.mem_of_getElem? (i := 199) rfl))
  | 3, _ => (mt4 _ (List.mem_of_getElem? (i := 201) rfl))
  | 4, _ => (mt4 _ (List.mem_of_getElem? (i := 203) rfl))
  | 5, _ => (mt4 _ (List.mem_of_getElem? (i := 205) rfl))
  | 6, _ => (mt4 _ (List.mem_of_getElem? (i := 207) rfl))
  | 7, _ => (mt4 _ (List.mem_of_getElem? (i := 209) rfl))
  | 8, _ => (mt4 _ (List.mem_of_getElem? (i := 211) rfl))
  | 9, _ => (mt4 _ (List.mem_of_getElem? (i := 213) rfl))
  | 10, _ => (mt4 _ (List.mem_of_getElem? (i := 215) rfl))
  | 11, _ => (mt4 _ (List.mem_of_getElem? (i := 217) rfl))
  | 12, _ => (mt4 _ (List.mem_of_getElem? (i := 219) rfl))
  | 13, _ => (mt4 _ (List.mem_of_getElem? (i := 221) rfl))
  | 14, _ => (mt4 _ (List.mem_of_getElem? (i := 223) rfl))
  | 15, _ => (mt4 _ (List.mem_of_getElem? (i := 225) rfl))
  | 16, _ => (mt4 _ (List.mem_of_getElem? (i := 227) rfl))
  | 17, _ => (mt4 _ (List.mem_of_getElem? (i := 229) rfl))
  | 18, _ => (mt4 _ (List.mem_of_getElem? (i := 231) rfl))
  | 19, _ => (mt4 _ (List.mem_of_getElem? (i := 233) rfl))
  | 20, _ => (mt4 _ (List.mem_of_getElem? (i := 235) rfl))
  | 21, _ => (mt4 _ (List.mem_of_getElem? (i := 237) rfl))
  | 22, _ => (mt4 _ (List.mem_of_getElem? (i := 239) rfl))
  | 23, _ => (mt5 _ (List.mem_of_getElem? (i := 1) rfl))
  | 24, _ => (mt5 _ (List.mem_of_getElem? (i := 3) rfl))
  | 25, _ => (mt5 _ (List.mem_of_getElem? (i := 5) rfl))
  | 26, _ => (mt5 _ (List.mem_of_getElem? (i := 7) rfl))
  | 27, _ => (mt5 _ (List.mem_of_getElem? (i := 9) rfl))
  | 28, _ => (mt5 _ (List.mem_of_getElem? (i := 11) rfl))
  | 29, _ => (mt5 _ (List.mem_of_getElem? (i := 13) rfl))
  | 30, _ => (mt5 _ (List.mem_of_getElem? (i := 15) rfl))
  | 31, _ => (mt5 _ (List.mem_of_getElem? (i := 17) rfl))
  | 32, _ => (mt5 _ (List.mem_of_getElem? (i := 19) rfl))
  | 33, _ => (mt5 _ (List.mem_of_getElem? (i := 21) rfl))
  | 34, _ => (mt5 _ (List.mem_of_getElem? (i := 23) rfl))
  | 35, _ => (mt5 _ (List.mem_of_getElem? (i := 25) rfl))
  | 36, _ => (mt5 _ (List.mem_of_getElem? (i := 27) rfl))
  | 37, _ => (mt5 _ (List.mem_of_getElem? (i := 29) rfl))
  | 38, _ => (mt5 _ (List.mem_of_getElem? (i := 31) rfl))
  | 39, _ => (mt5 _ (List.mem_of_getElem? (i := 33) rfl))
  | 40, _ => (mt5 _ (List.mem_of_getElem? (i := 35) rfl))
  | 41, _ => (mt5 _ (List.mem_of_getElem? (i := 37) rfl))
  | 42, _ => (mt5 _ (List.mem_of_getElem? (i := 39) rfl))
  | 43, _ => (mt5 _ (List.mem_of_getElem? (i := 41) rfl))
  | 44, _ => (mt5 _ (List.mem_of_getElem? (i := 43) rfl))
  | 45, _ => (mt5 _ (List.mem_of_getElem? (i := 45) rfl))
  | 46, _ => (mt5 _ (List.mem_of_getElem? (i := 47) rfl))
  | j + 47, hj => absurd hj (by omega)
abbrev Mx : Type := MethodName × ByteArray × Nat × Option FieldType
def MOb (X : Mx) (n : Nat) : Prop := Cond.code X.1 X.2.1 X.2.2.1 X.2.2.2 ∈ lw_tbl ∧ Cond.initialized X.1.cls ∈ lw_tbl ∧ (X.1.cls ≠ "java/lang/invoke/MethodHandle" ∧ X.1.cls ≠ "java/lang/invoke/VarHandle" ∧ (parseMethodDescriptor X.1.desc).map (fun d => d.parameters.length) = some n) ∧ plainName X.1.cls = true
def MOv (X : Mx) (n : Nat) : Prop := MOb X n ∧ Cond.instanceMethod X.1 ∈ lw_tbl ∧ Cond.selects X.1.cls X.1 X.1 ∈ lw_tbl
def MOs (X : Mx) (n : Nat) : Prop := MOb X n ∧ Cond.static X.1 ∈ lw_tbl
def MOi (X : Mx) (n : Nat) : Prop := MOb X n ∧ Cond.instanceMethod X.1 ∈ lw_tbl ∧ X.1.name = "<init>"
def x_X0_init : Mx := (yX0_init, cX0_init, 2, none)
theorem mo_X0_init : MOi x_X0_init 1 := ⟨⟨(mt1 _ (List.mem_of_getElem? (i := 30) rfl)), (mt1 _ (List.mem_of_getElem? (i := 2) rfl)), ⟨by decide +kernel, by decide +kernel, by decide +kernel⟩, by decide +kernel⟩, (mt1 _ (List.mem_of_getElem? (i := 29) rfl)), rfl⟩
def x_X0_forget : Mx := (yX0_forget, cX0_forget, 1, none)
theorem mo_X0_forget : MOv x_X0_forget 0 := ⟨⟨(mt2 _ (List.mem_of_getElem? (i := 62) rfl)), (mt1 _ (List.mem_of_getElem? (i := 2) rfl)), ⟨by decide +kernel, by decide +kernel, by decide +kernel⟩, by decide +kernel⟩, (mt2 _ (List.mem_of_getElem? (i := 60) rfl)), (mt2 _ (List.mem_of_getElem? (i := 61) rfl))⟩
def x_X0_become : Mx := (yX0_become, cX0_become, 2, none)
theorem mo_X0_become : MOv x_X0_become 1 := ⟨⟨(mt2 _ (List.mem_of_getElem? (i := 219) rfl)), (mt1 _ (List.mem_of_getElem? (i := 2) rfl)), ⟨by decide +kernel, by decide +kernel, by decide +kernel⟩, by decide +kernel⟩, (mt2 _ (List.mem_of_getElem? (i := 217) rfl)), (mt2 _ (List.mem_of_getElem? (i := 218) rfl))⟩
def x_X0_resize : Mx := (yX0_resize, cX0_resize, 5, none)
theorem mo_X0_resize : MOv x_X0_resize 3 := ⟨⟨(mt4 _ (List.mem_of_getElem? (i := 35) rfl)), (mt1 _ (List.mem_of_getElem? (i := 2) rfl)), ⟨by decide +kernel, by decide +kernel, by decide +kernel⟩, by decide +kernel⟩, (mt4 _ (List.mem_of_getElem? (i := 33) rfl)), (mt4 _ (List.mem_of_getElem? (i := 34) rfl))⟩
def x_X0_sameSize : Mx := (yX0_sameSize, cX0_sameSize, 2, (some .boolean))
theorem mo_X0_sameSize : MOv x_X0_sameSize 1 := ⟨⟨(mt2 _ (List.mem_of_getElem? (i := 194) rfl)), (mt1 _ (List.mem_of_getElem? (i := 2) rfl)), ⟨by decide +kernel, by decide +kernel, by decide +kernel⟩, by decide +kernel⟩, (mt2 _ (List.mem_of_getElem? (i := 192) rfl)), (mt2 _ (List.mem_of_getElem? (i := 193) rfl))⟩
def x_X0_darkSquares : Mx := (yX0_darkSquares, cX0_darkSquares, 1, (some .int))
theorem mo_X0_darkSquares : MOv x_X0_darkSquares 0 := ⟨⟨(mt3 _ (List.mem_of_getElem? (i := 56) rfl)), (mt1 _ (List.mem_of_getElem? (i := 2) rfl)), ⟨by decide +kernel, by decide +kernel, by decide +kernel⟩, by decide +kernel⟩, (mt3 _ (List.mem_of_getElem? (i := 54) rfl)), (mt3 _ (List.mem_of_getElem? (i := 55) rfl))⟩
def x_X0_everyRow : Mx := (yX0_everyRow, cX0_everyRow, 1, (some .int))
theorem mo_X0_everyRow : MOv x_X0_everyRow 0 := ⟨⟨(mt3 _ (List.mem_of_getElem? (i := 70) rfl)), (mt1 _ (List.mem_of_getElem? (i := 2) rfl)), ⟨by decide +kernel, by decide +kernel, by decide +kernel⟩, by decide +kernel⟩, (mt3 _ (List.mem_of_getElem? (i := 68) rfl)), (mt3 _ (List.mem_of_getElem? (i := 69) rfl))⟩
def x_X0_everyColumn : Mx := (yX0_everyColumn, cX0_everyColumn, 1, (some .int))
theorem mo_X0_everyColumn : MOv x_X0_everyColumn 0 := ⟨⟨(mt3 _ (List.mem_of_getElem? (i := 42) rfl)), (mt1 _ (List.mem_of_getElem? (i := 2) rfl)), ⟨by decide +kernel, by decide +kernel, by decide +kernel⟩, by decide +kernel⟩, (mt3 _ (List.mem_of_getElem? (i := 40) rfl)), (mt3 _ (List.mem_of_getElem? (i := 41) rfl))⟩
def x_X0_allSquares : Mx := (yX0_allSquares, cX0_allSquares, 1, (some .long))
theorem mo_X0_allSquares : MOv x_X0_allSquares 0 := ⟨⟨(mt4 _ (List.mem_of_getElem? (i := 39) rfl)), (mt1 _ (List.mem_of_getElem? (i := 2) rfl)), ⟨by decide +kernel, by decide +kernel, by decide +kernel⟩, by decide +kernel⟩, (mt4 _ (List.mem_of_getElem? (i := 37) rfl)), (mt4 _ (List.mem_of_getElem? (i := 38) rfl))⟩
def x_X0_hasSquare : Mx := (yX0_hasSquare, cX0_hasSquare, 3, (some .boolean))
theorem mo_X0_hasSquare : MOv x_X0_hasSquare 2 := ⟨⟨(mt3 _ (List.mem_of_getElem? (i := 10) rfl)), (mt1 _ (List.mem_of_getElem? (i := 2) rfl)), ⟨by decide +kernel, by decide +kernel, by decide +kernel⟩, by decide +kernel⟩, (mt3 _ (List.mem_of_getElem? (i := 8) rfl)), (mt3 _ (List.mem_of_getElem? (i := 9) rfl))⟩
def x_X0_squareAt : Mx := (yX0_squareAt, cX0_squareAt, 3, (some .int))
theorem mo_X0_squareAt : MOv x_X0_squareAt 2 := ⟨⟨(mt3 _ (List.mem_of_getElem? (i := 14) rfl)), (mt1 _ (List.mem_of_getElem? (i := 2) rfl)), ⟨by decide +kernel, by decide +kernel, by decide +kernel⟩, by decide +kernel⟩, (mt3 _ (List.mem_of_getElem? (i := 12) rfl)), (mt3 _ (List.mem_of_getElem? (i := 13) rfl))⟩
def x_X0_colour : Mx := (yX0_colour, cX0_colour, 7, (some .int))
theorem mo_X0_colour : MOv x_X0_colour 3 := ⟨⟨(mt3 _ (List.mem_of_getElem? (i := 22) rfl)), (mt1 _ (List.mem_of_getElem? (i := 2) rfl)), ⟨by decide +kernel, by decide +kernel, by decide +kernel⟩, by decide +kernel⟩, (mt3 _ (List.mem_of_getElem? (i := 20) rfl)), (mt3 _ (List.mem_of_getElem? (i := 21) rfl))⟩
def x_X0_linesOf : Mx := (yX0_linesOf, cX0_linesOf, 2, (some .int))
theorem mo_X0_linesOf : MOv x_X0_linesOf 1 := ⟨⟨(mt2 _ (List.mem_of_getElem? (i := 215) rfl)), (mt1 _ (List.mem_of_getElem? (i := 2) rfl)), ⟨by decide +kernel, by decide +kernel, by decide +kernel⟩, by decide +kernel⟩, (mt2 _ (List.mem_of_getElem? (i := 213) rfl)), (mt2 _ (List.mem_of_getElem? (i := 214) rfl))⟩
def x_X0_hasLine : Mx := (yX0_hasLine, cX0_hasLine, 3, (some .boolean))
theorem mo_X0_hasLine : MOv x_X0_hasLine 2 := ⟨⟨(mt2 _ (List.mem_of_getElem? (i := 211) rfl)), (mt1 _ (List.mem_of_getElem? (i := 2) rfl)), ⟨by decide +kernel, by decide +kernel, by decide +kernel⟩, by decide +kernel⟩, (mt2 _ (List.mem_of_getElem? (i := 209) rfl)), (mt2 _ (List.mem_of_getElem? (i := 210) rfl))⟩
def x_X0_squaresOf : Mx := (yX0_squaresOf, cX0_squaresOf, 3, (some .long))
theorem mo_X0_squaresOf : MOv x_X0_squaresOf 2 := ⟨⟨(mt3 _ (List.mem_of_getElem? (i := 37) rfl)), (mt1 _ (List.mem_of_getElem? (i := 2) rfl)), ⟨by decide +kernel, by decide +kernel, by decide +kernel⟩, by decide +kernel⟩, (mt3 _ (List.mem_of_getElem? (i := 35) rfl)), (mt3 _ (List.mem_of_getElem? (i := 36) rfl))⟩
def x_X0_columnSquares : Mx := (yX0_columnSquares, cX0_columnSquares, 2, (some .long))
theorem mo_X0_columnSquares : MOv x_X0_columnSquares 1 := ⟨⟨(mt3 _ (List.mem_of_getElem? (i := 46) rfl)), (mt1 _ (List.mem_of_getElem? (i := 2) rfl)), ⟨by decide +kernel, by decide +kernel, by decide +kernel⟩, by decide +kernel⟩, (mt3 _ (List.mem_of_getElem? (i := 45) rfl)), (mp _ (List.mem_of_getElem? (i := 12) rfl : (yX0_columnSquares, 4) ∈ lw_privs))⟩
def x_X0_slantSquares : Mx := (yX0_slantSquares, cX0_slantSquares, 5, (some .long))
theorem mo_X0_slantSquares : MOv x_X0_slantSquares 1 := ⟨⟨(mt3 _ (List.mem_of_getElem? (i := 51) rfl)), (mt1 _ (List.mem_of_getElem? (i := 2) rfl)), ⟨by decide +kernel, by decide +kernel, by decide +kernel⟩, by decide +kernel⟩, (mt3 _ (List.mem_of_getElem? (i := 50) rfl)), (mp _ (List.mem_of_getElem? (i := 13) rfl : (yX0_slantSquares, 4) ∈ lw_privs))⟩
def x_X0_squaresTurned : Mx := (yX0_squaresTurned, cX0_squaresTurned, 6, (some .long))
theorem mo_X0_squaresTurned : MOv x_X0_squaresTurned 2 := ⟨⟨(mt3 _ (List.mem_of_getElem? (i := 75) rfl)), (mt1 _ (List.mem_of_getElem? (i := 2) rfl)), ⟨by decide +kernel, by decide +kernel, by decide +kernel⟩, by decide +kernel⟩, (mt3 _ (List.mem_of_getElem? (i := 73) rfl)), (mt3 _ (List.mem_of_getElem? (i := 74) rfl))⟩
def x_X0_columnsOfFirstRow : Mx := (yX0_columnsOfFirstRow, cX0_columnsOfFirstRow, 3, (some .int))
theorem mo_X0_columnsOfFirstRow : MOv x_X0_columnsOfFirstRow 1 := ⟨⟨(mt3 _ (List.mem_of_getElem? (i := 98) rfl)), (mt1 _ (List.mem_of_getElem? (i := 2) rfl)), ⟨by decide +kernel, by decide +kernel, by decide +kernel⟩, by decide +kernel⟩, (mt3 _ (List.mem_of_getElem? (i := 96) rfl)), (mt3 _ (List.mem_of_getElem? (i := 97) rfl))⟩
def x_X0_rowsUnlikeFirst : Mx := (yX0_rowsUnlikeFirst, cX0_rowsUnlikeFirst, 5, (some .int))
theorem mo_X0_rowsUnlikeFirst : MOv x_X0_rowsUnlikeFirst 1 := ⟨⟨(mt3 _ (List.mem_of_getElem? (i := 94) rfl)), (mt1 _ (List.mem_of_getElem? (i := 2) rfl)), ⟨by decide +kernel, by decide +kernel, by decide +kernel⟩, by decide +kernel⟩, (mt3 _ (List.mem_of_getElem? (i := 92) rfl)), (mt3 _ (List.mem_of_getElem? (i := 93) rfl))⟩
def x_X0_formOf : Mx := (yX0_formOf, cX0_formOf, 3, (some .long))
theorem mo_X0_formOf : MOv x_X0_formOf 1 := ⟨⟨(mt3 _ (List.mem_of_getElem? (i := 90) rfl)), (mt1 _ (List.mem_of_getElem? (i := 2) rfl)), ⟨by decide +kernel, by decide +kernel, by decide +kernel⟩, by decide +kernel⟩, (mt3 _ (List.mem_of_getElem? (i := 88) rfl)), (mt3 _ (List.mem_of_getElem? (i := 89) rfl))⟩
def x_X0_rotateBy : Mx := (yX0_rotateBy, cX0_rotateBy, 3, none)
theorem mo_X0_rotateBy : MOv x_X0_rotateBy 1 := ⟨⟨(mt4 _ (List.mem_of_getElem? (i := 15) rfl)), (mt1 _ (List.mem_of_getElem? (i := 2) rfl)), ⟨by decide +kernel, by decide +kernel, by decide +kernel⟩, by decide +kernel⟩, (mt4 _ (List.mem_of_getElem? (i := 13) rfl)), (mt4 _ (List.mem_of_getElem? (i := 14) rfl))⟩
def x_X0_mirror : Mx := (yX0_mirror, cX0_mirror, 5, none)
theorem mo_X0_mirror : MOv x_X0_mirror 0 := ⟨⟨(mt4 _ (List.mem_of_getElem? (i := 19) rfl)), (mt1 _ (List.mem_of_getElem? (i := 2) rfl)), ⟨by decide +kernel, by decide +kernel, by decide +kernel⟩, by decide +kernel⟩, (mt4 _ (List.mem_of_getElem? (i := 18) rfl)), (mp _ (List.mem_of_getElem? (i := 23) rfl : (yX0_mirror, 4) ∈ lw_privs))⟩
def x_X0_quarterRight : Mx := (yX0_quarterRight, cX0_quarterRight, 5, none)
theorem mo_X0_quarterRight : MOv x_X0_quarterRight 0 := ⟨⟨(mt4 _ (List.mem_of_getElem? (i := 23) rfl)), (mt1 _ (List.mem_of_getElem? (i := 2) rfl)), ⟨by decide +kernel, by decide +kernel, by decide +kernel⟩, by decide +kernel⟩, (mt4 _ (List.mem_of_getElem? (i := 22) rfl)), (mp _ (List.mem_of_getElem? (i := 24) rfl : (yX0_quarterRight, 4) ∈ lw_privs))⟩
def x_X1_init : Mx := (yX1_init, cX1_init, 1, none)
theorem mo_X1_init : MOi x_X1_init 0 := ⟨⟨(mt1 _ (List.mem_of_getElem? (i := 62) rfl)), (mt1 _ (List.mem_of_getElem? (i := 3) rfl)), ⟨by decide +kernel, by decide +kernel, by decide +kernel⟩, by decide +kernel⟩, (mt1 _ (List.mem_of_getElem? (i := 61) rfl)), rfl⟩
def x_X1_clear : Mx := (yX1_clear, cX1_clear, 1, none)
theorem mo_X1_clear : MOv x_X1_clear 0 := ⟨⟨(mt2 _ (List.mem_of_getElem? (i := 66) rfl)), (mt1 _ (List.mem_of_getElem? (i := 3) rfl)), ⟨by decide +kernel, by decide +kernel, by decide +kernel⟩, by decide +kernel⟩, (mt2 _ (List.mem_of_getElem? (i := 64) rfl)), (mt2 _ (List.mem_of_getElem? (i := 65) rfl))⟩
def x_X1_become : Mx := (yX1_become, cX1_become, 3, none)
theorem mo_X1_become : MOv x_X1_become 1 := ⟨⟨(mt2 _ (List.mem_of_getElem? (i := 223) rfl)), (mt1 _ (List.mem_of_getElem? (i := 3) rfl)), ⟨by decide +kernel, by decide +kernel, by decide +kernel⟩, by decide +kernel⟩, (mt2 _ (List.mem_of_getElem? (i := 221) rfl)), (mt2 _ (List.mem_of_getElem? (i := 222) rfl))⟩
def x_X1_begin : Mx := (yX1_begin, cX1_begin, 1, none)
theorem mo_X1_begin : MOv x_X1_begin 0 := ⟨⟨(mt2 _ (List.mem_of_getElem? (i := 167) rfl)), (mt1 _ (List.mem_of_getElem? (i := 3) rfl)), ⟨by decide +kernel, by decide +kernel, by decide +kernel⟩, by decide +kernel⟩, (mt2 _ (List.mem_of_getElem? (i := 165) rfl)), (mt2 _ (List.mem_of_getElem? (i := 166) rfl))⟩
def x_X1_add : Mx := (yX1_add, cX1_add, 5, none)
theorem mo_X1_add : MOv x_X1_add 2 := ⟨⟨(mt2 _ (List.mem_of_getElem? (i := 182) rfl)), (mt1 _ (List.mem_of_getElem? (i := 3) rfl)), ⟨by decide +kernel, by decide +kernel, by decide +kernel⟩, by decide +kernel⟩, (mt2 _ (List.mem_of_getElem? (i := 180) rfl)), (mt2 _ (List.mem_of_getElem? (i := 181) rfl))⟩
def x_X1_actsOf : Mx := (yX1_actsOf, cX1_actsOf, 2, (some .int))
theorem mo_X1_actsOf : MOv x_X1_actsOf 1 := ⟨⟨(mt2 _ (List.mem_of_getElem? (i := 186) rfl)), (mt1 _ (List.mem_of_getElem? (i := 3) rfl)), ⟨by decide +kernel, by decide +kernel, by decide +kernel⟩, by decide +kernel⟩, (mt2 _ (List.mem_of_getElem? (i := 184) rfl)), (mt2 _ (List.mem_of_getElem? (i := 185) rfl))⟩
def x_X1_codeOf : Mx := (yX1_codeOf, cX1_codeOf, 4, (some .int))
theorem mo_X1_codeOf : MOv x_X1_codeOf 2 := ⟨⟨(mt2 _ (List.mem_of_getElem? (i := 203) rfl)), (mt1 _ (List.mem_of_getElem? (i := 3) rfl)), ⟨by decide +kernel, by decide +kernel, by decide +kernel⟩, by decide +kernel⟩, (mt2 _ (List.mem_of_getElem? (i := 201) rfl)), (mt2 _ (List.mem_of_getElem? (i := 202) rfl))⟩
def x_X1_kindOf : Mx := (yX1_kindOf, cX1_kindOf, 3, (some .int))
theorem mo_X1_kindOf : MOv x_X1_kindOf 2 := ⟨⟨(mt2 _ (List.mem_of_getElem? (i := 199) rfl)), (mt1 _ (List.mem_of_getElem? (i := 3) rfl)), ⟨by decide +kernel, by decide +kernel, by decide +kernel⟩, by decide +kernel⟩, (mt2 _ (List.mem_of_getElem? (i := 197) rfl)), (mt2 _ (List.mem_of_getElem? (i := 198) rfl))⟩
def x_X1_numberOf : Mx := (yX1_numberOf, cX1_numberOf, 3, (some .int))
theorem mo_X1_numberOf : MOv x_X1_numberOf 2 := ⟨⟨(mt2 _ (List.mem_of_getElem? (i := 207) rfl)), (mt1 _ (List.mem_of_getElem? (i := 3) rfl)), ⟨by decide +kernel, by decide +kernel, by decide +kernel⟩, by decide +kernel⟩, (mt2 _ (List.mem_of_getElem? (i := 205) rfl)), (mt2 _ (List.mem_of_getElem? (i := 206) rfl))⟩
def x_X2_init : Mx := (yX2_init, cX2_init, 1, none)
theorem mo_X2_init : MOi x_X2_init 0 := ⟨⟨(mt1 _ (List.mem_of_getElem? (i := 216) rfl)), (mt1 _ (List.mem_of_getElem? (i := 9) rfl)), ⟨by decide +kernel, by decide +kernel, by decide +kernel⟩, by decide +kernel⟩, (mt1 _ (List.mem_of_getElem? (i := 215) rfl)), rfl⟩
def x_X2_find : Mx := (yX2_find, cX2_find, 7, none)
theorem mo_X2_find : MOv x_X2_find 2 := ⟨⟨(mt4 _ (List.mem_of_getElem? (i := 55) rfl)), (mt1 _ (List.mem_of_getElem? (i := 9) rfl)), ⟨by decide +kernel, by decide +kernel, by decide +kernel⟩, by decide +kernel⟩, (mt4 _ (List.mem_of_getElem? (i := 53) rfl)), (mt4 _ (List.mem_of_getElem? (i := 54) rfl))⟩
def x_X2_sameAs : Mx := (yX2_sameAs, cX2_sameAs, 2, (some .boolean))
theorem mo_X2_sameAs : MOv x_X2_sameAs 1 := ⟨⟨(mt4 _ (List.mem_of_getElem? (i := 66) rfl)), (mt1 _ (List.mem_of_getElem? (i := 9) rfl)), ⟨by decide +kernel, by decide +kernel, by decide +kernel⟩, by decide +kernel⟩, (mt4 _ (List.mem_of_getElem? (i := 64) rfl)), (mt4 _ (List.mem_of_getElem? (i := 65) rfl))⟩
def x_X3_init : Mx := (yX3_init, cX3_init, 1, none)
theorem mo_X3_init : MOi x_X3_init 0 := ⟨⟨(mt1 _ (List.mem_of_getElem? (i := 149) rfl)), (mt1 _ (List.mem_of_getElem? (i := 7) rfl)), ⟨by decide +kernel, by decide +kernel, by decide +kernel⟩, by decide +kernel⟩, (mt1 _ (List.mem_of_getElem? (i := 148) rfl)), rfl⟩
def x_X3_isNothing : Mx := (yX3_isNothing, cX3_isNothing, 1, (some .boolean))
theorem mo_X3_isNothing : MOv x_X3_isNothing 0 := ⟨⟨(mt4 _ (List.mem_of_getElem? (i := 97) rfl)), (mt1 _ (List.mem_of_getElem? (i := 7) rfl)), ⟨by decide +kernel, by decide +kernel, by decide +kernel⟩, by decide +kernel⟩, (mt4 _ (List.mem_of_getElem? (i := 95) rfl)), (mt4 _ (List.mem_of_getElem? (i := 96) rfl))⟩
def x_X3_renew : Mx := (yX3_renew, cX3_renew, 4, none)
theorem mo_X3_renew : MOv x_X3_renew 2 := ⟨⟨(mt4 _ (List.mem_of_getElem? (i := 89) rfl)), (mt1 _ (List.mem_of_getElem? (i := 7) rfl)), ⟨by decide +kernel, by decide +kernel, by decide +kernel⟩, by decide +kernel⟩, (mt4 _ (List.mem_of_getElem? (i := 87) rfl)), (mt4 _ (List.mem_of_getElem? (i := 88) rfl))⟩
def x_X3_put : Mx := (yX3_put, cX3_put, 3, (some .boolean))
theorem mo_X3_put : MOv x_X3_put 2 := ⟨⟨(mt4 _ (List.mem_of_getElem? (i := 101) rfl)), (mt1 _ (List.mem_of_getElem? (i := 7) rfl)), ⟨by decide +kernel, by decide +kernel, by decide +kernel⟩, by decide +kernel⟩, (mt4 _ (List.mem_of_getElem? (i := 99) rfl)), (mt4 _ (List.mem_of_getElem? (i := 100) rfl))⟩
def x_X3_cell : Mx := (yX3_cell, cX3_cell, 2, (some .int))
theorem mo_X3_cell : MOv x_X3_cell 1 := ⟨⟨(mt4 _ (List.mem_of_getElem? (i := 119) rfl)), (mt1 _ (List.mem_of_getElem? (i := 7) rfl)), ⟨by decide +kernel, by decide +kernel, by decide +kernel⟩, by decide +kernel⟩, (mt4 _ (List.mem_of_getElem? (i := 117) rfl)), (mt4 _ (List.mem_of_getElem? (i := 118) rfl))⟩
def x_X3_faultOfLane : Mx := (yX3_faultOfLane, cX3_faultOfLane, 2, (some .int))
theorem mo_X3_faultOfLane : MOv x_X3_faultOfLane 1 := ⟨⟨(mt4 _ (List.mem_of_getElem? (i := 109) rfl)), (mt1 _ (List.mem_of_getElem? (i := 7) rfl)), ⟨by decide +kernel, by decide +kernel, by decide +kernel⟩, by decide +kernel⟩, (mt4 _ (List.mem_of_getElem? (i := 107) rfl)), (mt4 _ (List.mem_of_getElem? (i := 108) rfl))⟩
def x_X3_pairsFrom : Mx := (yX3_pairsFrom, cX3_pairsFrom, 2, (some .int))
theorem mo_X3_pairsFrom : MOv x_X3_pairsFrom 1 := ⟨⟨(mt4 _ (List.mem_of_getElem? (i := 114) rfl)), (mt1 _ (List.mem_of_getElem? (i := 7) rfl)), ⟨by decide +kernel, by decide +kernel, by decide +kernel⟩, by decide +kernel⟩, (mt4 _ (List.mem_of_getElem? (i := 112) rfl)), (mt4 _ (List.mem_of_getElem? (i := 113) rfl))⟩
def x_X4_init : Mx := (yX4_init, cX4_init, 2, none)
theorem mo_X4_init : MOi x_X4_init 0 := ⟨⟨(mt1 _ (List.mem_of_getElem? (i := 142) rfl)), (mt1 _ (List.mem_of_getElem? (i := 6) rfl)), ⟨by decide +kernel, by decide +kernel, by decide +kernel⟩, by decide +kernel⟩, (mt1 _ (List.mem_of_getElem? (i := 141) rfl)), rfl⟩
def x_X4_at : Mx := (yX4_at, cX4_at, 2, (some (.object "RowsColumns$Sheet")))
theorem mo_X4_at : MOv x_X4_at 1 := ⟨⟨(mt4 _ (List.mem_of_getElem? (i := 82) rfl)), (mt1 _ (List.mem_of_getElem? (i := 6) rfl)), ⟨by decide +kernel, by decide +kernel, by decide +kernel⟩, by decide +kernel⟩, (mt4 _ (List.mem_of_getElem? (i := 80) rfl)), (mt4 _ (List.mem_of_getElem? (i := 81) rfl))⟩
def x_X4_cellsOf : Mx := (yX4_cellsOf, cX4_cellsOf, 3, (some .int))
theorem mo_X4_cellsOf : MOv x_X4_cellsOf 1 := ⟨⟨(mt4 _ (List.mem_of_getElem? (i := 131) rfl)), (mt1 _ (List.mem_of_getElem? (i := 6) rfl)), ⟨by decide +kernel, by decide +kernel, by decide +kernel⟩, by decide +kernel⟩, (mt4 _ (List.mem_of_getElem? (i := 129) rfl)), (mt4 _ (List.mem_of_getElem? (i := 130) rfl))⟩
def x_X5_init : Mx := (yX5_init, cX5_init, 1, none)
theorem mo_X5_init : MOi x_X5_init 0 := ⟨⟨(mt1 _ (List.mem_of_getElem? (i := 81) rfl)), (mt1 _ (List.mem_of_getElem? (i := 4) rfl)), ⟨by decide +kernel, by decide +kernel, by decide +kernel⟩, by decide +kernel⟩, (mt1 _ (List.mem_of_getElem? (i := 80) rfl)), rfl⟩
def x_X5_add : Mx := (yX5_add, cX5_add, 5, (some .boolean))
theorem mo_X5_add : MOv x_X5_add 1 := ⟨⟨(mt2 _ (List.mem_of_getElem? (i := 46) rfl)), (mt1 _ (List.mem_of_getElem? (i := 4) rfl)), ⟨by decide +kernel, by decide +kernel, by decide +kernel⟩, by decide +kernel⟩, (mt2 _ (List.mem_of_getElem? (i := 44) rfl)), (mt2 _ (List.mem_of_getElem? (i := 45) rfl))⟩
def x_X5_byteAt : Mx := (yX5_byteAt, cX5_byteAt, 2, (some .int))
theorem mo_X5_byteAt : MOv x_X5_byteAt 1 := ⟨⟨(mt2 _ (List.mem_of_getElem? (i := 78) rfl)), (mt1 _ (List.mem_of_getElem? (i := 4) rfl)), ⟨by decide +kernel, by decide +kernel, by decide +kernel⟩, by decide +kernel⟩, (mt2 _ (List.mem_of_getElem? (i := 76) rfl)), (mt2 _ (List.mem_of_getElem? (i := 77) rfl))⟩
def x_X6_init : Mx := (yX6_init, cX6_init, 2, none)
theorem mo_X6_init : MOi x_X6_init 1 := ⟨⟨(mt1 _ (List.mem_of_getElem? (i := 97) rfl)), (mt1 _ (List.mem_of_getElem? (i := 5) rfl)), ⟨by decide +kernel, by decide +kernel, by decide +kernel⟩, by decide +kernel⟩, (mt1 _ (List.mem_of_getElem? (i := 96) rfl)), rfl⟩
def x_X6_takeText : Mx := (yX6_takeText, cX6_takeText, 2, (some .int))
theorem mo_X6_takeText : MOv x_X6_takeText 0 := ⟨⟨(mt2 _ (List.mem_of_getElem? (i := 58) rfl)), (mt1 _ (List.mem_of_getElem? (i := 5) rfl)), ⟨by decide +kernel, by decide +kernel, by decide +kernel⟩, by decide +kernel⟩, (mt2 _ (List.mem_of_getElem? (i := 56) rfl)), (mt2 _ (List.mem_of_getElem? (i := 57) rfl))⟩
def x_X6_refuse : Mx := (yX6_refuse, cX6_refuse, 2, (some .boolean))
theorem mo_X6_refuse : MOv x_X6_refuse 1 := ⟨⟨(mt2 _ (List.mem_of_getElem? (i := 92) rfl)), (mt1 _ (List.mem_of_getElem? (i := 5) rfl)), ⟨by decide +kernel, by decide +kernel, by decide +kernel⟩, by decide +kernel⟩, (mt2 _ (List.mem_of_getElem? (i := 91) rfl)), (mp _ (List.mem_of_getElem? (i := 3) rfl : (yX6_refuse, 10) ∈ lw_privs))⟩
def x_X6_takeLine : Mx := (yX6_takeLine, cX6_takeLine, 1, (some .boolean))
theorem mo_X6_takeLine : MOv x_X6_takeLine 0 := ⟨⟨(mt2 _ (List.mem_of_getElem? (i := 70) rfl)), (mt1 _ (List.mem_of_getElem? (i := 5) rfl)), ⟨by decide +kernel, by decide +kernel, by decide +kernel⟩, by decide +kernel⟩, (mt2 _ (List.mem_of_getElem? (i := 69) rfl)), (mp _ (List.mem_of_getElem? (i := 0) rfl : (yX6_takeLine, 10) ∈ lw_privs))⟩
def x_X6_takeRows : Mx := (yX6_takeRows, cX6_takeRows, 3, (some .boolean))
theorem mo_X6_takeRows : MOv x_X6_takeRows 1 := ⟨⟨(mt2 _ (List.mem_of_getElem? (i := 149) rfl)), (mt1 _ (List.mem_of_getElem? (i := 5) rfl)), ⟨by decide +kernel, by decide +kernel, by decide +kernel⟩, by decide +kernel⟩, (mt2 _ (List.mem_of_getElem? (i := 148) rfl)), (mp _ (List.mem_of_getElem? (i := 5) rfl : (yX6_takeRows, 10) ∈ lw_privs))⟩
def x_X6_takeRow : Mx := (yX6_takeRow, cX6_takeRow, 4, (some .boolean))
theorem mo_X6_takeRow : MOv x_X6_takeRow 1 := ⟨⟨(mt2 _ (List.mem_of_getElem? (i := 153) rfl)), (mt1 _ (List.mem_of_getElem? (i := 5) rfl)), ⟨by decide +kernel, by decide +kernel, by decide +kernel⟩, by decide +kernel⟩, (mt2 _ (List.mem_of_getElem? (i := 152) rfl)), (mp _ (List.mem_of_getElem? (i := 6) rfl : (yX6_takeRow, 10) ∈ lw_privs))⟩
def x_X6_takeDay : Mx := (yX6_takeDay, cX6_takeDay, 3, (some .boolean))
theorem mo_X6_takeDay : MOv x_X6_takeDay 0 := ⟨⟨(mt2 _ (List.mem_of_getElem? (i := 163) rfl)), (mt1 _ (List.mem_of_getElem? (i := 5) rfl)), ⟨by decide +kernel, by decide +kernel, by decide +kernel⟩, by decide +kernel⟩, (mt2 _ (List.mem_of_getElem? (i := 162) rfl)), (mp _ (List.mem_of_getElem? (i := 8) rfl : (yX6_takeDay, 10) ∈ lw_privs))⟩
def x_X6_takeNumber : Mx := (yX6_takeNumber, cX6_takeNumber, 2, (some .boolean))
theorem mo_X6_takeNumber : MOv x_X6_takeNumber 1 := ⟨⟨(mt2 _ (List.mem_of_getElem? (i := 178) rfl)), (mt1 _ (List.mem_of_getElem? (i := 5) rfl)), ⟨by decide +kernel, by decide +kernel, by decide +kernel⟩, by decide +kernel⟩, (mt2 _ (List.mem_of_getElem? (i := 177) rfl)), (mp _ (List.mem_of_getElem? (i := 10) rfl : (yX6_takeNumber, 10) ∈ lw_privs))⟩
def x_X6_judgeWhole : Mx := (yX6_judgeWhole, cX6_judgeWhole, 3, none)
theorem mo_X6_judgeWhole : MOv x_X6_judgeWhole 0 := ⟨⟨(mt2 _ (List.mem_of_getElem? (i := 190) rfl)), (mt1 _ (List.mem_of_getElem? (i := 5) rfl)), ⟨by decide +kernel, by decide +kernel, by decide +kernel⟩, by decide +kernel⟩, (mt2 _ (List.mem_of_getElem? (i := 189) rfl)), (mp _ (List.mem_of_getElem? (i := 11) rfl : (yX6_judgeWhole, 10) ∈ lw_privs))⟩
def x_X6_kindNamed : Mx := (yX6_kindNamed, cX6_kindNamed, 1, (some .int))
theorem mo_X6_kindNamed : MOv x_X6_kindNamed 0 := ⟨⟨(mt2 _ (List.mem_of_getElem? (i := 171) rfl)), (mt1 _ (List.mem_of_getElem? (i := 5) rfl)), ⟨by decide +kernel, by decide +kernel, by decide +kernel⟩, by decide +kernel⟩, (mt2 _ (List.mem_of_getElem? (i := 170) rfl)), (mp _ (List.mem_of_getElem? (i := 9) rfl : (yX6_kindNamed, 10) ∈ lw_privs))⟩
def x_X6_isNamed : Mx := (yX6_isNamed, cX6_isNamed, 3, (some .boolean))
theorem mo_X6_isNamed : MOv x_X6_isNamed 1 := ⟨⟨(mt2 _ (List.mem_of_getElem? (i := 97) rfl)), (mt1 _ (List.mem_of_getElem? (i := 5) rfl)), ⟨by decide +kernel, by decide +kernel, by decide +kernel⟩, by decide +kernel⟩, (mt2 _ (List.mem_of_getElem? (i := 96) rfl)), (mp _ (List.mem_of_getElem? (i := 4) rfl : (yX6_isNamed, 10) ∈ lw_privs))⟩
def x_X6_isRow : Mx := (yX6_isRow, cX6_isRow, 3, (some .boolean))
theorem mo_X6_isRow : MOv x_X6_isRow 0 := ⟨⟨(mt2 _ (List.mem_of_getElem? (i := 157) rfl)), (mt1 _ (List.mem_of_getElem? (i := 5) rfl)), ⟨by decide +kernel, by decide +kernel, by decide +kernel⟩, by decide +kernel⟩, (mt2 _ (List.mem_of_getElem? (i := 156) rfl)), (mp _ (List.mem_of_getElem? (i := 7) rfl : (yX6_isRow, 10) ∈ lw_privs))⟩
def x_X6_step : Mx := (yX6_step, cX6_step, 1, none)
theorem mo_X6_step : MOv x_X6_step 0 := ⟨⟨(mt2 _ (List.mem_of_getElem? (i := 74) rfl)), (mt1 _ (List.mem_of_getElem? (i := 5) rfl)), ⟨by decide +kernel, by decide +kernel, by decide +kernel⟩, by decide +kernel⟩, (mt2 _ (List.mem_of_getElem? (i := 73) rfl)), (mp _ (List.mem_of_getElem? (i := 1) rfl : (yX6_step, 10) ∈ lw_privs))⟩
def x_X6_stepNumber : Mx := (yX6_stepNumber, cX6_stepNumber, 1, none)
theorem mo_X6_stepNumber : MOv x_X6_stepNumber 0 := ⟨⟨(mt2 _ (List.mem_of_getElem? (i := 88) rfl)), (mt1 _ (List.mem_of_getElem? (i := 5) rfl)), ⟨by decide +kernel, by decide +kernel, by decide +kernel⟩, by decide +kernel⟩, (mt2 _ (List.mem_of_getElem? (i := 87) rfl)), (mp _ (List.mem_of_getElem? (i := 2) rfl : (yX6_stepNumber, 10) ∈ lw_privs))⟩
def x_X6_isLetter : Mx := (yX6_isLetter, cX6_isLetter, 1, (some .boolean))
theorem mo_X6_isLetter : MOs x_X6_isLetter 1 := ⟨⟨(mt2 _ (List.mem_of_getElem? (i := 81) rfl)), (mt1 _ (List.mem_of_getElem? (i := 5) rfl)), ⟨by decide +kernel, by decide +kernel, by decide +kernel⟩, by decide +kernel⟩, (mt2 _ (List.mem_of_getElem? (i := 80) rfl))⟩
def x_X6_isFigure : Mx := (yX6_isFigure, cX6_isFigure, 1, (some .boolean))
theorem mo_X6_isFigure : MOs x_X6_isFigure 1 := ⟨⟨(mt2 _ (List.mem_of_getElem? (i := 84) rfl)), (mt1 _ (List.mem_of_getElem? (i := 5) rfl)), ⟨by decide +kernel, by decide +kernel, by decide +kernel⟩, by decide +kernel⟩, (mt2 _ (List.mem_of_getElem? (i := 83) rfl))⟩
def x_X7_init : Mx := (yX7_init, cX7_init, 1, none)
theorem mo_X7_init : MOi x_X7_init 0 := ⟨⟨(mt1 _ (List.mem_of_getElem? (i := 170) rfl)), (mt1 _ (List.mem_of_getElem? (i := 8) rfl)), ⟨by decide +kernel, by decide +kernel, by decide +kernel⟩, by decide +kernel⟩, (mt1 _ (List.mem_of_getElem? (i := 169) rfl)), rfl⟩
def x_X7_acts : Mx := (yX7_acts, cX7_acts, 1, (some .int))
theorem mo_X7_acts : MOv x_X7_acts 0 := ⟨⟨(mt3 _ (List.mem_of_getElem? (i := 133) rfl)), (mt1 _ (List.mem_of_getElem? (i := 8) rfl)), ⟨by decide +kernel, by decide +kernel, by decide +kernel⟩, by decide +kernel⟩, (mt3 _ (List.mem_of_getElem? (i := 131) rfl)), (mt3 _ (List.mem_of_getElem? (i := 132) rfl))⟩
def x_X7_take : Mx := (yX7_take, cX7_take, 4, none)
theorem mo_X7_take : MOv x_X7_take 3 := ⟨⟨(mt3 _ (List.mem_of_getElem? (i := 128) rfl)), (mt1 _ (List.mem_of_getElem? (i := 8) rfl)), ⟨by decide +kernel, by decide +kernel, by decide +kernel⟩, by decide +kernel⟩, (mt3 _ (List.mem_of_getElem? (i := 127) rfl)), (mp _ (List.mem_of_getElem? (i := 15) rfl : (yX7_take, 10) ∈ lw_privs))⟩
def x_X7_findPlan : Mx := (yX7_findPlan, cX7_findPlan, 7, none)
theorem mo_X7_findPlan : MOv x_X7_findPlan 2 := ⟨⟨(mt3 _ (List.mem_of_getElem? (i := 121) rfl)), (mt1 _ (List.mem_of_getElem? (i := 8) rfl)), ⟨by decide +kernel, by decide +kernel, by decide +kernel⟩, by decide +kernel⟩, (mt3 _ (List.mem_of_getElem? (i := 119) rfl)), (mt3 _ (List.mem_of_getElem? (i := 120) rfl))⟩
def x_X7_findNearest : Mx := (yX7_findNearest, cX7_findNearest, 5, none)
theorem mo_X7_findNearest : MOv x_X7_findNearest 2 := ⟨⟨(mt3 _ (List.mem_of_getElem? (i := 157) rfl)), (mt1 _ (List.mem_of_getElem? (i := 8) rfl)), ⟨by decide +kernel, by decide +kernel, by decide +kernel⟩, by decide +kernel⟩, (mt3 _ (List.mem_of_getElem? (i := 155) rfl)), (mt3 _ (List.mem_of_getElem? (i := 156) rfl))⟩
def x_X7_tryRows : Mx := (yX7_tryRows, cX7_tryRows, 9, none)
theorem mo_X7_tryRows : MOv x_X7_tryRows 3 := ⟨⟨(mt3 _ (List.mem_of_getElem? (i := 162) rfl)), (mt1 _ (List.mem_of_getElem? (i := 8) rfl)), ⟨by decide +kernel, by decide +kernel, by decide +kernel⟩, by decide +kernel⟩, (mt3 _ (List.mem_of_getElem? (i := 161) rfl)), (mp _ (List.mem_of_getElem? (i := 17) rfl : (yX7_tryRows, 10) ∈ lw_privs))⟩
def x_X7_goBlind : Mx := (yX7_goBlind, cX7_goBlind, 10, none)
theorem mo_X7_goBlind : MOv x_X7_goBlind 2 := ⟨⟨(mt3 _ (List.mem_of_getElem? (i := 179) rfl)), (mt1 _ (List.mem_of_getElem? (i := 8) rfl)), ⟨by decide +kernel, by decide +kernel, by decide +kernel⟩, by decide +kernel⟩, (mt3 _ (List.mem_of_getElem? (i := 177) rfl)), (mt3 _ (List.mem_of_getElem? (i := 178) rfl))⟩
def x_X7_mostUnlike : Mx := (yX7_mostUnlike, cX7_mostUnlike, 10, (some .int))
theorem mo_X7_mostUnlike : MOs x_X7_mostUnlike 3 := ⟨⟨(mt3 _ (List.mem_of_getElem? (i := 182) rfl)), (mt1 _ (List.mem_of_getElem? (i := 8) rfl)), ⟨by decide +kernel, by decide +kernel, by decide +kernel⟩, by decide +kernel⟩, (mt3 _ (List.mem_of_getElem? (i := 181) rfl))⟩
def x_X7_findSlanted : Mx := (yX7_findSlanted, cX7_findSlanted, 6, none)
theorem mo_X7_findSlanted : MOv x_X7_findSlanted 2 := ⟨⟨(mt3 _ (List.mem_of_getElem? (i := 191) rfl)), (mt1 _ (List.mem_of_getElem? (i := 8) rfl)), ⟨by decide +kernel, by decide +kernel, by decide +kernel⟩, by decide +kernel⟩, (mt3 _ (List.mem_of_getElem? (i := 189) rfl)), (mt3 _ (List.mem_of_getElem? (i := 190) rfl))⟩
def x_X7_trySlants : Mx := (yX7_trySlants, cX7_trySlants, 7, none)
theorem mo_X7_trySlants : MOv x_X7_trySlants 3 := ⟨⟨(mt3 _ (List.mem_of_getElem? (i := 195) rfl)), (mt1 _ (List.mem_of_getElem? (i := 8) rfl)), ⟨by decide +kernel, by decide +kernel, by decide +kernel⟩, by decide +kernel⟩, (mt3 _ (List.mem_of_getElem? (i := 194) rfl)), (mp _ (List.mem_of_getElem? (i := 18) rfl : (yX7_trySlants, 10) ∈ lw_privs))⟩
def x_X7_slantsThatMake : Mx := (yX7_slantsThatMake, cX7_slantsThatMake, 7, (some .int))
theorem mo_X7_slantsThatMake : MOv x_X7_slantsThatMake 1 := ⟨⟨(mt3 _ (List.mem_of_getElem? (i := 199) rfl)), (mt1 _ (List.mem_of_getElem? (i := 8) rfl)), ⟨by decide +kernel, by decide +kernel, by decide +kernel⟩, by decide +kernel⟩, (mt3 _ (List.mem_of_getElem? (i := 198) rfl)), (mp _ (List.mem_of_getElem? (i := 19) rfl : (yX7_slantsThatMake, 10) ∈ lw_privs))⟩
def x_X7_findSpoilt : Mx := (yX7_findSpoilt, cX7_findSpoilt, 7, none)
theorem mo_X7_findSpoilt : MOv x_X7_findSpoilt 2 := ⟨⟨(mt3 _ (List.mem_of_getElem? (i := 230) rfl)), (mt1 _ (List.mem_of_getElem? (i := 8) rfl)), ⟨by decide +kernel, by decide +kernel, by decide +kernel⟩, by decide +kernel⟩, (mt3 _ (List.mem_of_getElem? (i := 228) rfl)), (mt3 _ (List.mem_of_getElem? (i := 229) rfl))⟩
def x_X7_findBothSpoilt : Mx := (yX7_findBothSpoilt, cX7_findBothSpoilt, 7, none)
theorem mo_X7_findBothSpoilt : MOv x_X7_findBothSpoilt 2 := ⟨⟨(mt4 _ (List.mem_of_getElem? (i := 3) rfl)), (mt1 _ (List.mem_of_getElem? (i := 8) rfl)), ⟨by decide +kernel, by decide +kernel, by decide +kernel⟩, by decide +kernel⟩, (mt4 _ (List.mem_of_getElem? (i := 1) rfl)), (mt4 _ (List.mem_of_getElem? (i := 2) rfl))⟩
def x_X7_pairWith : Mx := (yX7_pairWith, cX7_pairWith, 6, none)
theorem mo_X7_pairWith : MOv x_X7_pairWith 3 := ⟨⟨(mt4 _ (List.mem_of_getElem? (i := 7) rfl)), (mt1 _ (List.mem_of_getElem? (i := 8) rfl)), ⟨by decide +kernel, by decide +kernel, by decide +kernel⟩, by decide +kernel⟩, (mt4 _ (List.mem_of_getElem? (i := 6) rfl)), (mp _ (List.mem_of_getElem? (i := 22) rfl : (yX7_pairWith, 10) ∈ lw_privs))⟩
def x_X8_init : Mx := (yX8_init, cX8_init, 1, none)
theorem mo_X8_init : MOi x_X8_init 0 := ⟨⟨(mt1 _ (List.mem_of_getElem? (i := 22) rfl)), (mt1 _ (List.mem_of_getElem? (i := 1) rfl)), ⟨by decide +kernel, by decide +kernel, by decide +kernel⟩, by decide +kernel⟩, (mt1 _ (List.mem_of_getElem? (i := 21) rfl)), rfl⟩
def x_X8_feed : Mx := (yX8_feed, cX8_feed, 3, (some .int))
theorem mo_X8_feed : MOv x_X8_feed 1 := ⟨⟨(mt2 _ (List.mem_of_getElem? (i := 42) rfl)), (mt1 _ (List.mem_of_getElem? (i := 1) rfl)), ⟨by decide +kernel, by decide +kernel, by decide +kernel⟩, by decide +kernel⟩, (mt2 _ (List.mem_of_getElem? (i := 40) rfl)), (mt2 _ (List.mem_of_getElem? (i := 41) rfl))⟩
def x_X8_end : Mx := (yX8_end, cX8_end, 3, (some .int))
theorem mo_X8_end : MOv x_X8_end 1 := ⟨⟨(mt2 _ (List.mem_of_getElem? (i := 50) rfl)), (mt1 _ (List.mem_of_getElem? (i := 1) rfl)), ⟨by decide +kernel, by decide +kernel, by decide +kernel⟩, by decide +kernel⟩, (mt2 _ (List.mem_of_getElem? (i := 48) rfl)), (mt2 _ (List.mem_of_getElem? (i := 49) rfl))⟩
def x_X8_text : Mx := (yX8_text, cX8_text, 2, (some .int))
theorem mo_X8_text : MOv x_X8_text 0 := ⟨⟨(mt2 _ (List.mem_of_getElem? (i := 54) rfl)), (mt1 _ (List.mem_of_getElem? (i := 1) rfl)), ⟨by decide +kernel, by decide +kernel, by decide +kernel⟩, by decide +kernel⟩, (mt2 _ (List.mem_of_getElem? (i := 52) rfl)), (mt2 _ (List.mem_of_getElem? (i := 53) rfl))⟩
def x_X8_fault : Mx := (yX8_fault, cX8_fault, 1, (some .int))
theorem mo_X8_fault : MOv x_X8_fault 0 := ⟨⟨(mt2 _ (List.mem_of_getElem? (i := 227) rfl)), (mt1 _ (List.mem_of_getElem? (i := 1) rfl)), ⟨by decide +kernel, by decide +kernel, by decide +kernel⟩, by decide +kernel⟩, (mt2 _ (List.mem_of_getElem? (i := 225) rfl)), (mt2 _ (List.mem_of_getElem? (i := 226) rfl))⟩
def x_X8_rule : Mx := (yX8_rule, cX8_rule, 2, (some .int))
theorem mo_X8_rule : MOv x_X8_rule 1 := ⟨⟨(mt2 _ (List.mem_of_getElem? (i := 231) rfl)), (mt1 _ (List.mem_of_getElem? (i := 1) rfl)), ⟨by decide +kernel, by decide +kernel, by decide +kernel⟩, by decide +kernel⟩, (mt2 _ (List.mem_of_getElem? (i := 229) rfl)), (mt2 _ (List.mem_of_getElem? (i := 230) rfl))⟩
def x_X8_day : Mx := (yX8_day, cX8_day, 3, (some .int))
theorem mo_X8_day : MOv x_X8_day 2 := ⟨⟨(mt2 _ (List.mem_of_getElem? (i := 236) rfl)), (mt1 _ (List.mem_of_getElem? (i := 1) rfl)), ⟨by decide +kernel, by decide +kernel, by decide +kernel⟩, by decide +kernel⟩, (mt2 _ (List.mem_of_getElem? (i := 234) rfl)), (mt2 _ (List.mem_of_getElem? (i := 235) rfl))⟩
def x_X8_cloth : Mx := (yX8_cloth, cX8_cloth, 2, (some .long))
theorem mo_X8_cloth : MOv x_X8_cloth 1 := ⟨⟨(mt3 _ (List.mem_of_getElem? (i := 2) rfl)), (mt1 _ (List.mem_of_getElem? (i := 1) rfl)), ⟨by decide +kernel, by decide +kernel, by decide +kernel⟩, by decide +kernel⟩, (mt3 _ (List.mem_of_getElem? (i := 0) rfl)), (mt3 _ (List.mem_of_getElem? (i := 1) rfl))⟩
def x_X8_square : Mx := (yX8_square, cX8_square, 3, (some .int))
theorem mo_X8_square : MOv x_X8_square 2 := ⟨⟨(mt3 _ (List.mem_of_getElem? (i := 6) rfl)), (mt1 _ (List.mem_of_getElem? (i := 1) rfl)), ⟨by decide +kernel, by decide +kernel, by decide +kernel⟩, by decide +kernel⟩, (mt3 _ (List.mem_of_getElem? (i := 4) rfl)), (mt3 _ (List.mem_of_getElem? (i := 5) rfl))⟩
def x_X8_paint : Mx := (yX8_paint, cX8_paint, 4, (some .int))
theorem mo_X8_paint : MOv x_X8_paint 3 := ⟨⟨(mt3 _ (List.mem_of_getElem? (i := 18) rfl)), (mt1 _ (List.mem_of_getElem? (i := 1) rfl)), ⟨by decide +kernel, by decide +kernel, by decide +kernel⟩, by decide +kernel⟩, (mt3 _ (List.mem_of_getElem? (i := 16) rfl)), (mt3 _ (List.mem_of_getElem? (i := 17) rfl))⟩
def x_X8_wish : Mx := (yX8_wish, cX8_wish, 4, (some .int))
theorem mo_X8_wish : MOv x_X8_wish 3 := ⟨⟨(mt3 _ (List.mem_of_getElem? (i := 28) rfl)), (mt1 _ (List.mem_of_getElem? (i := 1) rfl)), ⟨by decide +kernel, by decide +kernel, by decide +kernel⟩, by decide +kernel⟩, (mt3 _ (List.mem_of_getElem? (i := 26) rfl)), (mt3 _ (List.mem_of_getElem? (i := 27) rfl))⟩
def x_X8_act : Mx := (yX8_act, cX8_act, 3, (some .int))
theorem mo_X8_act : MOv x_X8_act 2 := ⟨⟨(mt3 _ (List.mem_of_getElem? (i := 32) rfl)), (mt1 _ (List.mem_of_getElem? (i := 1) rfl)), ⟨by decide +kernel, by decide +kernel, by decide +kernel⟩, by decide +kernel⟩, (mt3 _ (List.mem_of_getElem? (i := 30) rfl)), (mt3 _ (List.mem_of_getElem? (i := 31) rfl))⟩
def x_X8_turn : Mx := (yX8_turn, cX8_turn, 3, (some .int))
theorem mo_X8_turn : MOv x_X8_turn 2 := ⟨⟨(mt3 _ (List.mem_of_getElem? (i := 66) rfl)), (mt1 _ (List.mem_of_getElem? (i := 1) rfl)), ⟨by decide +kernel, by decide +kernel, by decide +kernel⟩, by decide +kernel⟩, (mt3 _ (List.mem_of_getElem? (i := 64) rfl)), (mt3 _ (List.mem_of_getElem? (i := 65) rfl))⟩
def x_X8_go : Mx := (yX8_go, cX8_go, 4, (some .int))
theorem mo_X8_go : MOv x_X8_go 1 := ⟨⟨(mt3 _ (List.mem_of_getElem? (i := 80) rfl)), (mt1 _ (List.mem_of_getElem? (i := 1) rfl)), ⟨by decide +kernel, by decide +kernel, by decide +kernel⟩, by decide +kernel⟩, (mt3 _ (List.mem_of_getElem? (i := 78) rfl)), (mt3 _ (List.mem_of_getElem? (i := 79) rfl))⟩
def x_X8_form : Mx := (yX8_form, cX8_form, 2, (some .long))
theorem mo_X8_form : MOv x_X8_form 1 := ⟨⟨(mt3 _ (List.mem_of_getElem? (i := 86) rfl)), (mt1 _ (List.mem_of_getElem? (i := 1) rfl)), ⟨by decide +kernel, by decide +kernel, by decide +kernel⟩, by decide +kernel⟩, (mt3 _ (List.mem_of_getElem? (i := 84) rfl)), (mt3 _ (List.mem_of_getElem? (i := 85) rfl))⟩
def x_X8_forms : Mx := (yX8_forms, cX8_forms, 1, (some .long))
theorem mo_X8_forms : MOv x_X8_forms 0 := ⟨⟨(mt3 _ (List.mem_of_getElem? (i := 104) rfl)), (mt1 _ (List.mem_of_getElem? (i := 1) rfl)), ⟨by decide +kernel, by decide +kernel, by decide +kernel⟩, by decide +kernel⟩, (mt3 _ (List.mem_of_getElem? (i := 102) rfl)), (mt3 _ (List.mem_of_getElem? (i := 103) rfl))⟩
def x_X8_alike : Mx := (yX8_alike, cX8_alike, 3, (some .int))
theorem mo_X8_alike : MOv x_X8_alike 1 := ⟨⟨(mt3 _ (List.mem_of_getElem? (i := 108) rfl)), (mt1 _ (List.mem_of_getElem? (i := 1) rfl)), ⟨by decide +kernel, by decide +kernel, by decide +kernel⟩, by decide +kernel⟩, (mt3 _ (List.mem_of_getElem? (i := 106) rfl)), (mt3 _ (List.mem_of_getElem? (i := 107) rfl))⟩
def x_X8_plan : Mx := (yX8_plan, cX8_plan, 2, (some .int))
theorem mo_X8_plan : MOv x_X8_plan 1 := ⟨⟨(mt3 _ (List.mem_of_getElem? (i := 117) rfl)), (mt1 _ (List.mem_of_getElem? (i := 1) rfl)), ⟨by decide +kernel, by decide +kernel, by decide +kernel⟩, by decide +kernel⟩, (mt3 _ (List.mem_of_getElem? (i := 115) rfl)), (mt3 _ (List.mem_of_getElem? (i := 116) rfl))⟩
def x_X8_nearest : Mx := (yX8_nearest, cX8_nearest, 2, (some .int))
theorem mo_X8_nearest : MOv x_X8_nearest 1 := ⟨⟨(mt3 _ (List.mem_of_getElem? (i := 153) rfl)), (mt1 _ (List.mem_of_getElem? (i := 1) rfl)), ⟨by decide +kernel, by decide +kernel, by decide +kernel⟩, by decide +kernel⟩, (mt3 _ (List.mem_of_getElem? (i := 151) rfl)), (mt3 _ (List.mem_of_getElem? (i := 152) rfl))⟩
def x_X8_lightest : Mx := (yX8_lightest, cX8_lightest, 2, (some .int))
theorem mo_X8_lightest : MOv x_X8_lightest 1 := ⟨⟨(mt3 _ (List.mem_of_getElem? (i := 171) rfl)), (mt1 _ (List.mem_of_getElem? (i := 1) rfl)), ⟨by decide +kernel, by decide +kernel, by decide +kernel⟩, by decide +kernel⟩, (mt3 _ (List.mem_of_getElem? (i := 169) rfl)), (mt3 _ (List.mem_of_getElem? (i := 170) rfl))⟩
def x_X8_blind : Mx := (yX8_blind, cX8_blind, 2, (some .int))
theorem mo_X8_blind : MOv x_X8_blind 1 := ⟨⟨(mt3 _ (List.mem_of_getElem? (i := 175) rfl)), (mt1 _ (List.mem_of_getElem? (i := 1) rfl)), ⟨by decide +kernel, by decide +kernel, by decide +kernel⟩, by decide +kernel⟩, (mt3 _ (List.mem_of_getElem? (i := 173) rfl)), (mt3 _ (List.mem_of_getElem? (i := 174) rfl))⟩
def x_X8_slanted : Mx := (yX8_slanted, cX8_slanted, 2, (some .int))
theorem mo_X8_slanted : MOv x_X8_slanted 1 := ⟨⟨(mt3 _ (List.mem_of_getElem? (i := 187) rfl)), (mt1 _ (List.mem_of_getElem? (i := 1) rfl)), ⟨by decide +kernel, by decide +kernel, by decide +kernel⟩, by decide +kernel⟩, (mt3 _ (List.mem_of_getElem? (i := 185) rfl)), (mt3 _ (List.mem_of_getElem? (i := 186) rfl))⟩
def x_X8_power : Mx := (yX8_power, cX8_power, 2, (some .int))
theorem mo_X8_power : MOv x_X8_power 1 := ⟨⟨(mt3 _ (List.mem_of_getElem? (i := 203) rfl)), (mt1 _ (List.mem_of_getElem? (i := 1) rfl)), ⟨by decide +kernel, by decide +kernel, by decide +kernel⟩, by decide +kernel⟩, (mt3 _ (List.mem_of_getElem? (i := 201) rfl)), (mt3 _ (List.mem_of_getElem? (i := 202) rfl))⟩
def x_X8_duel : Mx := (yX8_duel, cX8_duel, 9, (some .int))
theorem mo_X8_duel : MOv x_X8_duel 3 := ⟨⟨(mt3 _ (List.mem_of_getElem? (i := 211) rfl)), (mt1 _ (List.mem_of_getElem? (i := 1) rfl)), ⟨by decide +kernel, by decide +kernel, by decide +kernel⟩, by decide +kernel⟩, (mt3 _ (List.mem_of_getElem? (i := 209) rfl)), (mt3 _ (List.mem_of_getElem? (i := 210) rfl))⟩
def x_X8_turned : Mx := (yX8_turned, cX8_turned, 4, (some .int))
theorem mo_X8_turned : MOv x_X8_turned 2 := ⟨⟨(mt3 _ (List.mem_of_getElem? (i := 222) rfl)), (mt1 _ (List.mem_of_getElem? (i := 1) rfl)), ⟨by decide +kernel, by decide +kernel, by decide +kernel⟩, by decide +kernel⟩, (mt3 _ (List.mem_of_getElem? (i := 220) rfl)), (mt3 _ (List.mem_of_getElem? (i := 221) rfl))⟩
def x_X8_spoilt : Mx := (yX8_spoilt, cX8_spoilt, 2, (some .int))
theorem mo_X8_spoilt : MOv x_X8_spoilt 1 := ⟨⟨(mt3 _ (List.mem_of_getElem? (i := 226) rfl)), (mt1 _ (List.mem_of_getElem? (i := 1) rfl)), ⟨by decide +kernel, by decide +kernel, by decide +kernel⟩, by decide +kernel⟩, (mt3 _ (List.mem_of_getElem? (i := 224) rfl)), (mt3 _ (List.mem_of_getElem? (i := 225) rfl))⟩
def x_X8_both : Mx := (yX8_both, cX8_both, 2, (some .int))
theorem mo_X8_both : MOv x_X8_both 1 := ⟨⟨(mt3 _ (List.mem_of_getElem? (i := 239) rfl)), (mt1 _ (List.mem_of_getElem? (i := 1) rfl)), ⟨by decide +kernel, by decide +kernel, by decide +kernel⟩, by decide +kernel⟩, (mt3 _ (List.mem_of_getElem? (i := 237) rfl)), (mt3 _ (List.mem_of_getElem? (i := 238) rfl))⟩
def x_X8_rotate : Mx := (yX8_rotate, cX8_rotate, 2, (some .int))
theorem mo_X8_rotate : MOv x_X8_rotate 1 := ⟨⟨(mt4 _ (List.mem_of_getElem? (i := 11) rfl)), (mt1 _ (List.mem_of_getElem? (i := 1) rfl)), ⟨by decide +kernel, by decide +kernel, by decide +kernel⟩, by decide +kernel⟩, (mt4 _ (List.mem_of_getElem? (i := 9) rfl)), (mt4 _ (List.mem_of_getElem? (i := 10) rfl))⟩
def x_X8_cut : Mx := (yX8_cut, cX8_cut, 5, (some .int))
theorem mo_X8_cut : MOv x_X8_cut 4 := ⟨⟨(mt4 _ (List.mem_of_getElem? (i := 28) rfl)), (mt1 _ (List.mem_of_getElem? (i := 1) rfl)), ⟨by decide +kernel, by decide +kernel, by decide +kernel⟩, by decide +kernel⟩, (mt4 _ (List.mem_of_getElem? (i := 26) rfl)), (mt4 _ (List.mem_of_getElem? (i := 27) rfl))⟩
def x_X8_sew : Mx := (yX8_sew, cX8_sew, 8, (some .int))
theorem mo_X8_sew : MOv x_X8_sew 2 := ⟨⟨(mt4 _ (List.mem_of_getElem? (i := 47) rfl)), (mt1 _ (List.mem_of_getElem? (i := 1) rfl)), ⟨by decide +kernel, by decide +kernel, by decide +kernel⟩, by decide +kernel⟩, (mt4 _ (List.mem_of_getElem? (i := 45) rfl)), (mt4 _ (List.mem_of_getElem? (i := 46) rfl))⟩
def x_X8_name : Mx := (yX8_name, cX8_name, 2, (some .long))
theorem mo_X8_name : MOv x_X8_name 1 := ⟨⟨(mt4 _ (List.mem_of_getElem? (i := 51) rfl)), (mt1 _ (List.mem_of_getElem? (i := 1) rfl)), ⟨by decide +kernel, by decide +kernel, by decide +kernel⟩, by decide +kernel⟩, (mt4 _ (List.mem_of_getElem? (i := 49) rfl)), (mt4 _ (List.mem_of_getElem? (i := 50) rfl))⟩
def x_X8_cousin : Mx := (yX8_cousin, cX8_cousin, 3, (some .int))
theorem mo_X8_cousin : MOv x_X8_cousin 1 := ⟨⟨(mt4 _ (List.mem_of_getElem? (i := 62) rfl)), (mt1 _ (List.mem_of_getElem? (i := 1) rfl)), ⟨by decide +kernel, by decide +kernel, by decide +kernel⟩, by decide +kernel⟩, (mt4 _ (List.mem_of_getElem? (i := 60) rfl)), (mt4 _ (List.mem_of_getElem? (i := 61) rfl))⟩
def x_X8_keep : Mx := (yX8_keep, cX8_keep, 4, (some .int))
theorem mo_X8_keep : MOv x_X8_keep 1 := ⟨⟨(mt4 _ (List.mem_of_getElem? (i := 70) rfl)), (mt1 _ (List.mem_of_getElem? (i := 1) rfl)), ⟨by decide +kernel, by decide +kernel, by decide +kernel⟩, by decide +kernel⟩, (mt4 _ (List.mem_of_getElem? (i := 68) rfl)), (mt4 _ (List.mem_of_getElem? (i := 69) rfl))⟩
def x_X8_back : Mx := (yX8_back, cX8_back, 3, (some .int))
theorem mo_X8_back : MOv x_X8_back 1 := ⟨⟨(mt4 _ (List.mem_of_getElem? (i := 74) rfl)), (mt1 _ (List.mem_of_getElem? (i := 1) rfl)), ⟨by decide +kernel, by decide +kernel, by decide +kernel⟩, by decide +kernel⟩, (mt4 _ (List.mem_of_getElem? (i := 72) rfl)), (mt4 _ (List.mem_of_getElem? (i := 73) rfl))⟩
def x_X8_sheet : Mx := (yX8_sheet, cX8_sheet, 5, (some .int))
theorem mo_X8_sheet : MOv x_X8_sheet 3 := ⟨⟨(mt4 _ (List.mem_of_getElem? (i := 78) rfl)), (mt1 _ (List.mem_of_getElem? (i := 1) rfl)), ⟨by decide +kernel, by decide +kernel, by decide +kernel⟩, by decide +kernel⟩, (mt4 _ (List.mem_of_getElem? (i := 76) rfl)), (mt4 _ (List.mem_of_getElem? (i := 77) rfl))⟩
def x_X8_lay : Mx := (yX8_lay, cX8_lay, 5, (some .int))
theorem mo_X8_lay : MOv x_X8_lay 3 := ⟨⟨(mt4 _ (List.mem_of_getElem? (i := 93) rfl)), (mt1 _ (List.mem_of_getElem? (i := 1) rfl)), ⟨by decide +kernel, by decide +kernel, by decide +kernel⟩, by decide +kernel⟩, (mt4 _ (List.mem_of_getElem? (i := 91) rfl)), (mt4 _ (List.mem_of_getElem? (i := 92) rfl))⟩
def x_X8_read : Mx := (yX8_read, cX8_read, 9, (some .int))
theorem mo_X8_read : MOv x_X8_read 4 := ⟨⟨(mt4 _ (List.mem_of_getElem? (i := 105) rfl)), (mt1 _ (List.mem_of_getElem? (i := 1) rfl)), ⟨by decide +kernel, by decide +kernel, by decide +kernel⟩, by decide +kernel⟩, (mt4 _ (List.mem_of_getElem? (i := 103) rfl)), (mt4 _ (List.mem_of_getElem? (i := 104) rfl))⟩
def x_X8_torn : Mx := (yX8_torn, cX8_torn, 1, (some .int))
theorem mo_X8_torn : MOv x_X8_torn 0 := ⟨⟨(mt4 _ (List.mem_of_getElem? (i := 123) rfl)), (mt1 _ (List.mem_of_getElem? (i := 1) rfl)), ⟨by decide +kernel, by decide +kernel, by decide +kernel⟩, by decide +kernel⟩, (mt4 _ (List.mem_of_getElem? (i := 121) rfl)), (mt4 _ (List.mem_of_getElem? (i := 122) rfl))⟩
def x_X8_count : Mx := (yX8_count, cX8_count, 2, (some .int))
theorem mo_X8_count : MOv x_X8_count 1 := ⟨⟨(mt4 _ (List.mem_of_getElem? (i := 127) rfl)), (mt1 _ (List.mem_of_getElem? (i := 1) rfl)), ⟨by decide +kernel, by decide +kernel, by decide +kernel⟩, by decide +kernel⟩, (mt4 _ (List.mem_of_getElem? (i := 125) rfl)), (mt4 _ (List.mem_of_getElem? (i := 126) rfl))⟩
def x_X8_imageOf : Mx := (yX8_imageOf, cX8_imageOf, 2, (some (.object "RowsColumns$Cloth")))
theorem mo_X8_imageOf : MOv x_X8_imageOf 1 := ⟨⟨(mt3 _ (List.mem_of_getElem? (i := 112) rfl)), (mt1 _ (List.mem_of_getElem? (i := 1) rfl)), ⟨by decide +kernel, by decide +kernel, by decide +kernel⟩, by decide +kernel⟩, (mt3 _ (List.mem_of_getElem? (i := 111) rfl)), (mp _ (List.mem_of_getElem? (i := 14) rfl : (yX8_imageOf, 15) ∈ lw_privs))⟩
def x_X8_forgetPlans : Mx := (yX8_forgetPlans, cX8_forgetPlans, 1, none)
theorem mo_X8_forgetPlans : MOv x_X8_forgetPlans 0 := ⟨⟨(mt4 _ (List.mem_of_getElem? (i := 43) rfl)), (mt1 _ (List.mem_of_getElem? (i := 1) rfl)), ⟨by decide +kernel, by decide +kernel, by decide +kernel⟩, by decide +kernel⟩, (mt4 _ (List.mem_of_getElem? (i := 42) rfl)), (mp _ (List.mem_of_getElem? (i := 25) rfl : (yX8_forgetPlans, 15) ∈ lw_privs))⟩
def x_X8_toldOf : Mx := (yX8_toldOf, cX8_toldOf, 3, (some .int))
theorem mo_X8_toldOf : MOv x_X8_toldOf 2 := ⟨⟨(mt3 _ (List.mem_of_getElem? (i := 149) rfl)), (mt1 _ (List.mem_of_getElem? (i := 1) rfl)), ⟨by decide +kernel, by decide +kernel, by decide +kernel⟩, by decide +kernel⟩, (mt3 _ (List.mem_of_getElem? (i := 148) rfl)), (mp _ (List.mem_of_getElem? (i := 16) rfl : (yX8_toldOf, 15) ∈ lw_privs))⟩
def x_X8_spoiltTold : Mx := (yX8_spoiltTold, cX8_spoiltTold, 2, (some .int))
theorem mo_X8_spoiltTold : MOv x_X8_spoiltTold 1 := ⟨⟨(mt3 _ (List.mem_of_getElem? (i := 235) rfl)), (mt1 _ (List.mem_of_getElem? (i := 1) rfl)), ⟨by decide +kernel, by decide +kernel, by decide +kernel⟩, by decide +kernel⟩, (mt3 _ (List.mem_of_getElem? (i := 234) rfl)), (mp _ (List.mem_of_getElem? (i := 21) rfl : (yX8_spoiltTold, 15) ∈ lw_privs))⟩
def x_X8_isPart : Mx := (yX8_isPart, cX8_isPart, 3, (some .boolean))
theorem mo_X8_isPart : MOs x_X8_isPart 3 := ⟨⟨(mt4 _ (List.mem_of_getElem? (i := 31) rfl)), (mt1 _ (List.mem_of_getElem? (i := 1) rfl)), ⟨by decide +kernel, by decide +kernel, by decide +kernel⟩, by decide +kernel⟩, (mt4 _ (List.mem_of_getElem? (i := 30) rfl))⟩
def x_X8_isLane : Mx := (yX8_isLane, cX8_isLane, 1, (some .boolean))
theorem mo_X8_isLane : MOs x_X8_isLane 1 := ⟨⟨(mt4 _ (List.mem_of_getElem? (i := 85) rfl)), (mt1 _ (List.mem_of_getElem? (i := 1) rfl)), ⟨by decide +kernel, by decide +kernel, by decide +kernel⟩, by decide +kernel⟩, (mt4 _ (List.mem_of_getElem? (i := 84) rfl))⟩
def x_X8_isBetter : Mx := (yX8_isBetter, cX8_isBetter, 3, (some .boolean))
theorem mo_X8_isBetter : MOs x_X8_isBetter 3 := ⟨⟨(mt3 _ (List.mem_of_getElem? (i := 218) rfl)), (mt1 _ (List.mem_of_getElem? (i := 1) rfl)), ⟨by decide +kernel, by decide +kernel, by decide +kernel⟩, by decide +kernel⟩, (mt3 _ (List.mem_of_getElem? (i := 217) rfl))⟩
def x_X8_endOfDuel : Mx := (yX8_endOfDuel, cX8_endOfDuel, 9, (some .int))
theorem mo_X8_endOfDuel : MOs x_X8_endOfDuel 4 := ⟨⟨(mt3 _ (List.mem_of_getElem? (i := 214) rfl)), (mt1 _ (List.mem_of_getElem? (i := 1) rfl)), ⟨by decide +kernel, by decide +kernel, by decide +kernel⟩, by decide +kernel⟩, (mt3 _ (List.mem_of_getElem? (i := 213) rfl))⟩
def x_X8_independentLines : Mx := (yX8_independentLines, cX8_independentLines, 10, (some .int))
theorem mo_X8_independentLines : MOv x_X8_independentLines 1 := ⟨⟨(mt3 _ (List.mem_of_getElem? (i := 207) rfl)), (mt1 _ (List.mem_of_getElem? (i := 1) rfl)), ⟨by decide +kernel, by decide +kernel, by decide +kernel⟩, by decide +kernel⟩, (mt3 _ (List.mem_of_getElem? (i := 206) rfl)), (mp _ (List.mem_of_getElem? (i := 20) rfl : (yX8_independentLines, 15) ∈ lw_privs))⟩
def x_X9_init : Mx := (yX9_init, cX9_init, 2, none)
theorem mo_X9_init : MOi x_X9_init 0 := ⟨⟨(mt4 _ (List.mem_of_getElem? (i := 138) rfl)), (mt1 _ (List.mem_of_getElem? (i := 10) rfl)), ⟨by decide +kernel, by decide +kernel, by decide +kernel⟩, by decide +kernel⟩, (mt4 _ (List.mem_of_getElem? (i := 137) rfl)), rfl⟩
def x_X9_in : Mx := (yX9_in, cX9_in, 6, (some .boolean))
theorem mo_X9_in : MOs x_X9_in 3 := ⟨⟨(mt5 _ (List.mem_of_getElem? (i := 61) rfl)), (mt1 _ (List.mem_of_getElem? (i := 10) rfl)), ⟨by decide +kernel, by decide +kernel, by decide +kernel⟩, by decide +kernel⟩, (mt5 _ (List.mem_of_getElem? (i := 60) rfl))⟩
def x_X9_flag : Mx := (yX9_flag, cX9_flag, 1, (some .int))
theorem mo_X9_flag : MOs x_X9_flag 1 := ⟨⟨(mt5 _ (List.mem_of_getElem? (i := 141) rfl)), (mt1 _ (List.mem_of_getElem? (i := 10) rfl)), ⟨by decide +kernel, by decide +kernel, by decide +kernel⟩, by decide +kernel⟩, (mt5 _ (List.mem_of_getElem? (i := 140) rfl))⟩
def x_X9_bitOf : Mx := (yX9_bitOf, cX9_bitOf, 2, (some .long))
theorem mo_X9_bitOf : MOs x_X9_bitOf 2 := ⟨⟨(mt5 _ (List.mem_of_getElem? (i := 122) rfl)), (mt1 _ (List.mem_of_getElem? (i := 10) rfl)), ⟨by decide +kernel, by decide +kernel, by decide +kernel⟩, by decide +kernel⟩, (mt5 _ (List.mem_of_getElem? (i := 121) rfl))⟩
def x_X9_many : Mx := (yX9_many, cX9_many, 4, (some .int))
theorem mo_X9_many : MOs x_X9_many 1 := ⟨⟨(mt5 _ (List.mem_of_getElem? (i := 184) rfl)), (mt1 _ (List.mem_of_getElem? (i := 10) rfl)), ⟨by decide +kernel, by decide +kernel, by decide +kernel⟩, by decide +kernel⟩, (mt5 _ (List.mem_of_getElem? (i := 183) rfl))⟩
def x_X9_firstDraft : Mx := (yX9_firstDraft, cX9_firstDraft, 1, none)
theorem mo_X9_firstDraft : MOv x_X9_firstDraft 0 := ⟨⟨(mt4 _ (List.mem_of_getElem? (i := 143) rfl)), (mt1 _ (List.mem_of_getElem? (i := 10) rfl)), ⟨by decide +kernel, by decide +kernel, by decide +kernel⟩, by decide +kernel⟩, (mt4 _ (List.mem_of_getElem? (i := 142) rfl)), (mp _ (List.mem_of_getElem? (i := 26) rfl : (yX9_firstDraft, 47) ∈ lw_privs))⟩
def x_X9_keepDraft : Mx := (yX9_keepDraft, cX9_keepDraft, 2, none)
theorem mo_X9_keepDraft : MOv x_X9_keepDraft 0 := ⟨⟨(mt4 _ (List.mem_of_getElem? (i := 147) rfl)), (mt1 _ (List.mem_of_getElem? (i := 10) rfl)), ⟨by decide +kernel, by decide +kernel, by decide +kernel⟩, by decide +kernel⟩, (mt4 _ (List.mem_of_getElem? (i := 146) rfl)), (mp _ (List.mem_of_getElem? (i := 27) rfl : (yX9_keepDraft, 47) ∈ lw_privs))⟩
def x_X9_feed : Mx := (yX9_feed, cX9_feed, 4, (some .int))
theorem mo_X9_feed : MOv x_X9_feed 1 := ⟨⟨(mt5 _ (List.mem_of_getElem? (i := 53) rfl)), (mt1 _ (List.mem_of_getElem? (i := 10) rfl)), ⟨by decide +kernel, by decide +kernel, by decide +kernel⟩, by decide +kernel⟩, (mt5 _ (List.mem_of_getElem? (i := 51) rfl)), (mt5 _ (List.mem_of_getElem? (i := 52) rfl))⟩
def x_X9_end : Mx := (yX9_end, cX9_end, 3, (some .int))
theorem mo_X9_end : MOv x_X9_end 1 := ⟨⟨(mt5 _ (List.mem_of_getElem? (i := 58) rfl)), (mt1 _ (List.mem_of_getElem? (i := 10) rfl)), ⟨by decide +kernel, by decide +kernel, by decide +kernel⟩, by decide +kernel⟩, (mt5 _ (List.mem_of_getElem? (i := 56) rfl)), (mt5 _ (List.mem_of_getElem? (i := 57) rfl))⟩
def x_X9_needs : Mx := (yX9_needs, cX9_needs, 3, none)
theorem mo_X9_needs : MOv x_X9_needs 2 := ⟨⟨(mt5 _ (List.mem_of_getElem? (i := 81) rfl)), (mt1 _ (List.mem_of_getElem? (i := 10) rfl)), ⟨by decide +kernel, by decide +kernel, by decide +kernel⟩, by decide +kernel⟩, (mt5 _ (List.mem_of_getElem? (i := 80) rfl)), (mp _ (List.mem_of_getElem? (i := 30) rfl : (yX9_needs, 47) ∈ lw_privs))⟩
def x_X9_look : Mx := (yX9_look, cX9_look, 2, (some .int))
theorem mo_X9_look : MOv x_X9_look 1 := ⟨⟨(mt5 _ (List.mem_of_getElem? (i := 73) rfl)), (mt1 _ (List.mem_of_getElem? (i := 10) rfl)), ⟨by decide +kernel, by decide +kernel, by decide +kernel⟩, by decide +kernel⟩, (mt5 _ (List.mem_of_getElem? (i := 72) rfl)), (mp _ (List.mem_of_getElem? (i := 29) rfl : (yX9_look, 47) ∈ lw_privs))⟩
def x_X9_is : Mx := (yX9_is, cX9_is, 5, (some .boolean))
theorem mo_X9_is : MOv x_X9_is 4 := ⟨⟨(mt5 _ (List.mem_of_getElem? (i := 93) rfl)), (mt1 _ (List.mem_of_getElem? (i := 10) rfl)), ⟨by decide +kernel, by decide +kernel, by decide +kernel⟩, by decide +kernel⟩, (mt5 _ (List.mem_of_getElem? (i := 92) rfl)), (mp _ (List.mem_of_getElem? (i := 33) rfl : (yX9_is, 47) ∈ lw_privs))⟩
def x_X9_goesOn : Mx := (yX9_goesOn, cX9_goesOn, 5, (some .boolean))
theorem mo_X9_goesOn : MOv x_X9_goesOn 4 := ⟨⟨(mt5 _ (List.mem_of_getElem? (i := 97) rfl)), (mt1 _ (List.mem_of_getElem? (i := 10) rfl)), ⟨by decide +kernel, by decide +kernel, by decide +kernel⟩, by decide +kernel⟩, (mt5 _ (List.mem_of_getElem? (i := 96) rfl)), (mp _ (List.mem_of_getElem? (i := 34) rfl : (yX9_goesOn, 47) ∈ lw_privs))⟩
def x_X9_lineNow : Mx := (yX9_lineNow, cX9_lineNow, 1, (some .int))
theorem mo_X9_lineNow : MOv x_X9_lineNow 0 := ⟨⟨(mt5 _ (List.mem_of_getElem? (i := 89) rfl)), (mt1 _ (List.mem_of_getElem? (i := 10) rfl)), ⟨by decide +kernel, by decide +kernel, by decide +kernel⟩, by decide +kernel⟩, (mt5 _ (List.mem_of_getElem? (i := 88) rfl)), (mp _ (List.mem_of_getElem? (i := 32) rfl : (yX9_lineNow, 47) ∈ lw_privs))⟩
def x_X9_actNow : Mx := (yX9_actNow, cX9_actNow, 1, (some .int))
theorem mo_X9_actNow : MOv x_X9_actNow 0 := ⟨⟨(mt5 _ (List.mem_of_getElem? (i := 109) rfl)), (mt1 _ (List.mem_of_getElem? (i := 10) rfl)), ⟨by decide +kernel, by decide +kernel, by decide +kernel⟩, by decide +kernel⟩, (mt5 _ (List.mem_of_getElem? (i := 108) rfl)), (mp _ (List.mem_of_getElem? (i := 37) rfl : (yX9_actNow, 47) ∈ lw_privs))⟩
def x_X9_isRowName : Mx := (yX9_isRowName, cX9_isRowName, 3, (some .boolean))
theorem mo_X9_isRowName : MOv x_X9_isRowName 0 := ⟨⟨(mt5 _ (List.mem_of_getElem? (i := 119) rfl)), (mt1 _ (List.mem_of_getElem? (i := 10) rfl)), ⟨by decide +kernel, by decide +kernel, by decide +kernel⟩, by decide +kernel⟩, (mt5 _ (List.mem_of_getElem? (i := 118) rfl)), (mp _ (List.mem_of_getElem? (i := 39) rfl : (yX9_isRowName, 47) ∈ lw_privs))⟩
def x_X9_next : Mx := (yX9_next, cX9_next, 2, none)
theorem mo_X9_next : MOv x_X9_next 0 := ⟨⟨(mt5 _ (List.mem_of_getElem? (i := 69) rfl)), (mt1 _ (List.mem_of_getElem? (i := 10) rfl)), ⟨by decide +kernel, by decide +kernel, by decide +kernel⟩, by decide +kernel⟩, (mt5 _ (List.mem_of_getElem? (i := 68) rfl)), (mp _ (List.mem_of_getElem? (i := 28) rfl : (yX9_next, 47) ∈ lw_privs))⟩
def x_X9_readRows : Mx := (yX9_readRows, cX9_readRows, 4, none)
theorem mo_X9_readRows : MOv x_X9_readRows 0 := ⟨⟨(mt5 _ (List.mem_of_getElem? (i := 115) rfl)), (mt1 _ (List.mem_of_getElem? (i := 10) rfl)), ⟨by decide +kernel, by decide +kernel, by decide +kernel⟩, by decide +kernel⟩, (mt5 _ (List.mem_of_getElem? (i := 114) rfl)), (mp _ (List.mem_of_getElem? (i := 38) rfl : (yX9_readRows, 47) ∈ lw_privs))⟩
def x_X9_readAct : Mx := (yX9_readAct, cX9_readAct, 3, none)
theorem mo_X9_readAct : MOv x_X9_readAct 1 := ⟨⟨(mt5 _ (List.mem_of_getElem? (i := 105) rfl)), (mt1 _ (List.mem_of_getElem? (i := 10) rfl)), ⟨by decide +kernel, by decide +kernel, by decide +kernel⟩, by decide +kernel⟩, (mt5 _ (List.mem_of_getElem? (i := 104) rfl)), (mp _ (List.mem_of_getElem? (i := 36) rfl : (yX9_readAct, 47) ∈ lw_privs))⟩
def x_X9_readDay : Mx := (yX9_readDay, cX9_readDay, 3, none)
theorem mo_X9_readDay : MOv x_X9_readDay 0 := ⟨⟨(mt5 _ (List.mem_of_getElem? (i := 101) rfl)), (mt1 _ (List.mem_of_getElem? (i := 10) rfl)), ⟨by decide +kernel, by decide +kernel, by decide +kernel⟩, by decide +kernel⟩, (mt5 _ (List.mem_of_getElem? (i := 100) rfl)), (mp _ (List.mem_of_getElem? (i := 35) rfl : (yX9_readDay, 47) ∈ lw_privs))⟩
def x_X9_readLine : Mx := (yX9_readLine, cX9_readLine, 2, none)
theorem mo_X9_readLine : MOv x_X9_readLine 0 := ⟨⟨(mt5 _ (List.mem_of_getElem? (i := 85) rfl)), (mt1 _ (List.mem_of_getElem? (i := 10) rfl)), ⟨by decide +kernel, by decide +kernel, by decide +kernel⟩, by decide +kernel⟩, (mt5 _ (List.mem_of_getElem? (i := 84) rfl)), (mp _ (List.mem_of_getElem? (i := 31) rfl : (yX9_readLine, 47) ∈ lw_privs))⟩
def x_X9_isActOf : Mx := (yX9_isActOf, cX9_isActOf, 4, (some .boolean))
theorem mo_X9_isActOf : MOs x_X9_isActOf 4 := ⟨⟨(mt5 _ (List.mem_of_getElem? (i := 129) rfl)), (mt1 _ (List.mem_of_getElem? (i := 10) rfl)), ⟨by decide +kernel, by decide +kernel, by decide +kernel⟩, by decide +kernel⟩, (mt5 _ (List.mem_of_getElem? (i := 128) rfl))⟩
def x_X9_areActs : Mx := (yX9_areActs, cX9_areActs, 4, (some .boolean))
theorem mo_X9_areActs : MOv x_X9_areActs 0 := ⟨⟨(mt5 _ (List.mem_of_getElem? (i := 126) rfl)), (mt1 _ (List.mem_of_getElem? (i := 10) rfl)), ⟨by decide +kernel, by decide +kernel, by decide +kernel⟩, by decide +kernel⟩, (mt5 _ (List.mem_of_getElem? (i := 125) rfl)), (mp _ (List.mem_of_getElem? (i := 40) rfl : (yX9_areActs, 47) ∈ lw_privs))⟩
def x_X9_text : Mx := (yX9_text, cX9_text, 2, (some .int))
theorem mo_X9_text : MOv x_X9_text 0 := ⟨⟨(mt5 _ (List.mem_of_getElem? (i := 65) rfl)), (mt1 _ (List.mem_of_getElem? (i := 10) rfl)), ⟨by decide +kernel, by decide +kernel, by decide +kernel⟩, by decide +kernel⟩, (mt5 _ (List.mem_of_getElem? (i := 63) rfl)), (mt5 _ (List.mem_of_getElem? (i := 64) rfl))⟩
def x_X9_fault : Mx := (yX9_fault, cX9_fault, 1, (some .int))
theorem mo_X9_fault : MOv x_X9_fault 0 := ⟨⟨(mt5 _ (List.mem_of_getElem? (i := 134) rfl)), (mt1 _ (List.mem_of_getElem? (i := 10) rfl)), ⟨by decide +kernel, by decide +kernel, by decide +kernel⟩, by decide +kernel⟩, (mt5 _ (List.mem_of_getElem? (i := 132) rfl)), (mt5 _ (List.mem_of_getElem? (i := 133) rfl))⟩
def x_X9_rule : Mx := (yX9_rule, cX9_rule, 2, (some .int))
theorem mo_X9_rule : MOv x_X9_rule 1 := ⟨⟨(mt5 _ (List.mem_of_getElem? (i := 138) rfl)), (mt1 _ (List.mem_of_getElem? (i := 10) rfl)), ⟨by decide +kernel, by decide +kernel, by decide +kernel⟩, by decide +kernel⟩, (mt5 _ (List.mem_of_getElem? (i := 136) rfl)), (mt5 _ (List.mem_of_getElem? (i := 137) rfl))⟩
def x_X9_day : Mx := (yX9_day, cX9_day, 3, (some .int))
theorem mo_X9_day : MOv x_X9_day 2 := ⟨⟨(mt5 _ (List.mem_of_getElem? (i := 145) rfl)), (mt1 _ (List.mem_of_getElem? (i := 10) rfl)), ⟨by decide +kernel, by decide +kernel, by decide +kernel⟩, by decide +kernel⟩, (mt5 _ (List.mem_of_getElem? (i := 143) rfl)), (mt5 _ (List.mem_of_getElem? (i := 144) rfl))⟩
def x_X9_cloth : Mx := (yX9_cloth, cX9_cloth, 2, (some .long))
theorem mo_X9_cloth : MOv x_X9_cloth 1 := ⟨⟨(mt5 _ (List.mem_of_getElem? (i := 150) rfl)), (mt1 _ (List.mem_of_getElem? (i := 10) rfl)), ⟨by decide +kernel, by decide +kernel, by decide +kernel⟩, by decide +kernel⟩, (mt5 _ (List.mem_of_getElem? (i := 148) rfl)), (mt5 _ (List.mem_of_getElem? (i := 149) rfl))⟩
def x_X9_isSquare : Mx := (yX9_isSquare, cX9_isSquare, 3, (some .boolean))
theorem mo_X9_isSquare : MOv x_X9_isSquare 2 := ⟨⟨(mt5 _ (List.mem_of_getElem? (i := 158) rfl)), (mt1 _ (List.mem_of_getElem? (i := 10) rfl)), ⟨by decide +kernel, by decide +kernel, by decide +kernel⟩, by decide +kernel⟩, (mt5 _ (List.mem_of_getElem? (i := 157) rfl)), (mp _ (List.mem_of_getElem? (i := 41) rfl : (yX9_isSquare, 47) ∈ lw_privs))⟩
def x_X9_isDark : Mx := (yX9_isDark, cX9_isDark, 4, (some .int))
theorem mo_X9_isDark : MOs x_X9_isDark 3 := ⟨⟨(mt5 _ (List.mem_of_getElem? (i := 161) rfl)), (mt1 _ (List.mem_of_getElem? (i := 10) rfl)), ⟨by decide +kernel, by decide +kernel, by decide +kernel⟩, by decide +kernel⟩, (mt5 _ (List.mem_of_getElem? (i := 160) rfl))⟩
def x_X9_square : Mx := (yX9_square, cX9_square, 3, (some .int))
theorem mo_X9_square : MOv x_X9_square 2 := ⟨⟨(mt5 _ (List.mem_of_getElem? (i := 154) rfl)), (mt1 _ (List.mem_of_getElem? (i := 10) rfl)), ⟨by decide +kernel, by decide +kernel, by decide +kernel⟩, by decide +kernel⟩, (mt5 _ (List.mem_of_getElem? (i := 152) rfl)), (mt5 _ (List.mem_of_getElem? (i := 153) rfl))⟩
def x_X9_paint : Mx := (yX9_paint, cX9_paint, 5, (some .int))
theorem mo_X9_paint : MOv x_X9_paint 3 := ⟨⟨(mt5 _ (List.mem_of_getElem? (i := 165) rfl)), (mt1 _ (List.mem_of_getElem? (i := 10) rfl)), ⟨by decide +kernel, by decide +kernel, by decide +kernel⟩, by decide +kernel⟩, (mt5 _ (List.mem_of_getElem? (i := 163) rfl)), (mt5 _ (List.mem_of_getElem? (i := 164) rfl))⟩
def x_X9_wish : Mx := (yX9_wish, cX9_wish, 5, (some .int))
theorem mo_X9_wish : MOv x_X9_wish 3 := ⟨⟨(mt5 _ (List.mem_of_getElem? (i := 169) rfl)), (mt1 _ (List.mem_of_getElem? (i := 10) rfl)), ⟨by decide +kernel, by decide +kernel, by decide +kernel⟩, by decide +kernel⟩, (mt5 _ (List.mem_of_getElem? (i := 167) rfl)), (mt5 _ (List.mem_of_getElem? (i := 168) rfl))⟩
def x_X9_actSet : Mx := (yX9_actSet, cX9_actSet, 8, (some .long))
theorem mo_X9_actSet : MOv x_X9_actSet 2 := ⟨⟨(mt5 _ (List.mem_of_getElem? (i := 181) rfl)), (mt1 _ (List.mem_of_getElem? (i := 10) rfl)), ⟨by decide +kernel, by decide +kernel, by decide +kernel⟩, by decide +kernel⟩, (mt5 _ (List.mem_of_getElem? (i := 180) rfl)), (mp _ (List.mem_of_getElem? (i := 43) rfl : (yX9_actSet, 47) ∈ lw_privs))⟩
def x_X9_turnSet : Mx := (yX9_turnSet, cX9_turnSet, 7, (some .long))
theorem mo_X9_turnSet : MOv x_X9_turnSet 2 := ⟨⟨(mt5 _ (List.mem_of_getElem? (i := 192) rfl)), (mt1 _ (List.mem_of_getElem? (i := 10) rfl)), ⟨by decide +kernel, by decide +kernel, by decide +kernel⟩, by decide +kernel⟩, (mt5 _ (List.mem_of_getElem? (i := 191) rfl)), (mp _ (List.mem_of_getElem? (i := 44) rfl : (yX9_turnSet, 47) ∈ lw_privs))⟩
def x_X9_isAct : Mx := (yX9_isAct, cX9_isAct, 3, (some .boolean))
theorem mo_X9_isAct : MOv x_X9_isAct 2 := ⟨⟨(mt5 _ (List.mem_of_getElem? (i := 177) rfl)), (mt1 _ (List.mem_of_getElem? (i := 10) rfl)), ⟨by decide +kernel, by decide +kernel, by decide +kernel⟩, by decide +kernel⟩, (mt5 _ (List.mem_of_getElem? (i := 176) rfl)), (mp _ (List.mem_of_getElem? (i := 42) rfl : (yX9_isAct, 47) ∈ lw_privs))⟩
def x_X9_act : Mx := (yX9_act, cX9_act, 3, (some .int))
theorem mo_X9_act : MOv x_X9_act 2 := ⟨⟨(mt5 _ (List.mem_of_getElem? (i := 173) rfl)), (mt1 _ (List.mem_of_getElem? (i := 10) rfl)), ⟨by decide +kernel, by decide +kernel, by decide +kernel⟩, by decide +kernel⟩, (mt5 _ (List.mem_of_getElem? (i := 171) rfl)), (mt5 _ (List.mem_of_getElem? (i := 172) rfl))⟩
def x_X9_turn : Mx := (yX9_turn, cX9_turn, 3, (some .int))
theorem mo_X9_turn : MOv x_X9_turn 2 := ⟨⟨(mt5 _ (List.mem_of_getElem? (i := 188) rfl)), (mt1 _ (List.mem_of_getElem? (i := 10) rfl)), ⟨by decide +kernel, by decide +kernel, by decide +kernel⟩, by decide +kernel⟩, (mt5 _ (List.mem_of_getElem? (i := 186) rfl)), (mt5 _ (List.mem_of_getElem? (i := 187) rfl))⟩
def x_X9_go : Mx := (yX9_go, cX9_go, 4, (some .int))
theorem mo_X9_go : MOv x_X9_go 1 := ⟨⟨(mt5 _ (List.mem_of_getElem? (i := 196) rfl)), (mt1 _ (List.mem_of_getElem? (i := 10) rfl)), ⟨by decide +kernel, by decide +kernel, by decide +kernel⟩, by decide +kernel⟩, (mt5 _ (List.mem_of_getElem? (i := 194) rfl)), (mt5 _ (List.mem_of_getElem? (i := 195) rfl))⟩
def x_X9_formOf : Mx := (yX9_formOf, cX9_formOf, 9, (some .long))
theorem mo_X9_formOf : MOs x_X9_formOf 3 := ⟨⟨(mt5 _ (List.mem_of_getElem? (i := 207) rfl)), (mt1 _ (List.mem_of_getElem? (i := 10) rfl)), ⟨by decide +kernel, by decide +kernel, by decide +kernel⟩, by decide +kernel⟩, (mt5 _ (List.mem_of_getElem? (i := 206) rfl))⟩
def x_X9_formNow : Mx := (yX9_formNow, cX9_formNow, 3, (some .long))
theorem mo_X9_formNow : MOv x_X9_formNow 1 := ⟨⟨(mt5 _ (List.mem_of_getElem? (i := 204) rfl)), (mt1 _ (List.mem_of_getElem? (i := 10) rfl)), ⟨by decide +kernel, by decide +kernel, by decide +kernel⟩, by decide +kernel⟩, (mt5 _ (List.mem_of_getElem? (i := 203) rfl)), (mp _ (List.mem_of_getElem? (i := 45) rfl : (yX9_formNow, 47) ∈ lw_privs))⟩
def x_X9_form : Mx := (yX9_form, cX9_form, 2, (some .long))
theorem mo_X9_form : MOv x_X9_form 1 := ⟨⟨(mt5 _ (List.mem_of_getElem? (i := 200) rfl)), (mt1 _ (List.mem_of_getElem? (i := 10) rfl)), ⟨by decide +kernel, by decide +kernel, by decide +kernel⟩, by decide +kernel⟩, (mt5 _ (List.mem_of_getElem? (i := 198) rfl)), (mt5 _ (List.mem_of_getElem? (i := 199) rfl))⟩
def x_X9_forms : Mx := (yX9_forms, cX9_forms, 1, (some .long))
theorem mo_X9_forms : MOv x_X9_forms 0 := ⟨⟨(mt5 _ (List.mem_of_getElem? (i := 211) rfl)), (mt1 _ (List.mem_of_getElem? (i := 10) rfl)), ⟨by decide +kernel, by decide +kernel, by decide +kernel⟩, by decide +kernel⟩, (mt5 _ (List.mem_of_getElem? (i := 209) rfl)), (mt5 _ (List.mem_of_getElem? (i := 210) rfl))⟩
def x_X9_isImage : Mx := (yX9_isImage, cX9_isImage, 1, (some .boolean))
theorem mo_X9_isImage : MOs x_X9_isImage 1 := ⟨⟨(mt5 _ (List.mem_of_getElem? (i := 218) rfl)), (mt1 _ (List.mem_of_getElem? (i := 10) rfl)), ⟨by decide +kernel, by decide +kernel, by decide +kernel⟩, by decide +kernel⟩, (mt5 _ (List.mem_of_getElem? (i := 217) rfl))⟩
def x_X9_isKept : Mx := (yX9_isKept, cX9_isKept, 2, (some .boolean))
theorem mo_X9_isKept : MOv x_X9_isKept 1 := ⟨⟨(mt5 _ (List.mem_of_getElem? (i := 222) rfl)), (mt1 _ (List.mem_of_getElem? (i := 10) rfl)), ⟨by decide +kernel, by decide +kernel, by decide +kernel⟩, by decide +kernel⟩, (mt5 _ (List.mem_of_getElem? (i := 221) rfl)), (mp _ (List.mem_of_getElem? (i := 46) rfl : (yX9_isKept, 47) ∈ lw_privs))⟩
def x_X9_isOfSize : Mx := (yX9_isOfSize, cX9_isOfSize, 2, (some .boolean))
theorem mo_X9_isOfSize : MOv x_X9_isOfSize 1 := ⟨⟨(mt5 _ (List.mem_of_getElem? (i := 226) rfl)), (mt1 _ (List.mem_of_getElem? (i := 10) rfl)), ⟨by decide +kernel, by decide +kernel, by decide +kernel⟩, by decide +kernel⟩, (mt5 _ (List.mem_of_getElem? (i := 225) rfl)), (mp _ (List.mem_of_getElem? (i := 47) rfl : (yX9_isOfSize, 47) ∈ lw_privs))⟩
def x_X9_alike : Mx := (yX9_alike, cX9_alike, 2, (some .int))
theorem mo_X9_alike : MOv x_X9_alike 1 := ⟨⟨(mt5 _ (List.mem_of_getElem? (i := 215) rfl)), (mt1 _ (List.mem_of_getElem? (i := 10) rfl)), ⟨by decide +kernel, by decide +kernel, by decide +kernel⟩, by decide +kernel⟩, (mt5 _ (List.mem_of_getElem? (i := 213) rfl)), (mt5 _ (List.mem_of_getElem? (i := 214) rfl))⟩
def x_X9_findPlan : Mx := (yX9_findPlan, cX9_findPlan, 8, (some .boolean))
theorem mo_X9_findPlan : MOv x_X9_findPlan 1 := ⟨⟨(mt5 _ (List.mem_of_getElem? (i := 235) rfl)), (mt1 _ (List.mem_of_getElem? (i := 10) rfl)), ⟨by decide +kernel, by decide +kernel, by decide +kernel⟩, by decide +kernel⟩, (mt5 _ (List.mem_of_getElem? (i := 234) rfl)), (mp _ (List.mem_of_getElem? (i := 48) rfl : (yX9_findPlan, 47) ∈ lw_privs))⟩
def x_X9_planTold : Mx := (yX9_planTold, cX9_planTold, 4, (some .int))
theorem mo_X9_planTold : MOv x_X9_planTold 1 := ⟨⟨(mt5 _ (List.mem_of_getElem? (i := 239) rfl)), (mt1 _ (List.mem_of_getElem? (i := 10) rfl)), ⟨by decide +kernel, by decide +kernel, by decide +kernel⟩, by decide +kernel⟩, (mt5 _ (List.mem_of_getElem? (i := 238) rfl)), (mp _ (List.mem_of_getElem? (i := 49) rfl : (yX9_planTold, 47) ∈ lw_privs))⟩
def x_X9_plan : Mx := (yX9_plan, cX9_plan, 2, (some .int))
theorem mo_X9_plan : MOv x_X9_plan 1 := ⟨⟨(mt5 _ (List.mem_of_getElem? (i := 230) rfl)), (mt1 _ (List.mem_of_getElem? (i := 10) rfl)), ⟨by decide +kernel, by decide +kernel, by decide +kernel⟩, by decide +kernel⟩, (mt5 _ (List.mem_of_getElem? (i := 228) rfl)), (mt5 _ (List.mem_of_getElem? (i := 229) rfl))⟩
def x_X9_findNearest : Mx := (yX9_findNearest, cX9_findNearest, 10, none)
theorem mo_X9_findNearest : MOv x_X9_findNearest 1 := ⟨⟨(mt6 _ (List.mem_of_getElem? (i := 7) rfl)), (mt1 _ (List.mem_of_getElem? (i := 10) rfl)), ⟨by decide +kernel, by decide +kernel, by decide +kernel⟩, by decide +kernel⟩, (mt6 _ (List.mem_of_getElem? (i := 6) rfl)), (mp _ (List.mem_of_getElem? (i := 50) rfl : (yX9_findNearest, 47) ∈ lw_privs))⟩
def x_X9_nearTold : Mx := (yX9_nearTold, cX9_nearTold, 2, (some .int))
theorem mo_X9_nearTold : MOv x_X9_nearTold 1 := ⟨⟨(mt6 _ (List.mem_of_getElem? (i := 11) rfl)), (mt1 _ (List.mem_of_getElem? (i := 10) rfl)), ⟨by decide +kernel, by decide +kernel, by decide +kernel⟩, by decide +kernel⟩, (mt6 _ (List.mem_of_getElem? (i := 10) rfl)), (mp _ (List.mem_of_getElem? (i := 51) rfl : (yX9_nearTold, 47) ∈ lw_privs))⟩
def x_X9_nearest : Mx := (yX9_nearest, cX9_nearest, 2, (some .int))
theorem mo_X9_nearest : MOv x_X9_nearest 1 := ⟨⟨(mt6 _ (List.mem_of_getElem? (i := 3) rfl)), (mt1 _ (List.mem_of_getElem? (i := 10) rfl)), ⟨by decide +kernel, by decide +kernel, by decide +kernel⟩, by decide +kernel⟩, (mt6 _ (List.mem_of_getElem? (i := 1) rfl)), (mt6 _ (List.mem_of_getElem? (i := 2) rfl))⟩
def x_X9_lightest : Mx := (yX9_lightest, cX9_lightest, 2, (some .int))
theorem mo_X9_lightest : MOv x_X9_lightest 1 := ⟨⟨(mt6 _ (List.mem_of_getElem? (i := 15) rfl)), (mt1 _ (List.mem_of_getElem? (i := 10) rfl)), ⟨by decide +kernel, by decide +kernel, by decide +kernel⟩, by decide +kernel⟩, (mt6 _ (List.mem_of_getElem? (i := 13) rfl)), (mt6 _ (List.mem_of_getElem? (i := 14) rfl))⟩
def x_X9_mostOf : Mx := (yX9_mostOf, cX9_mostOf, 8, (some .int))
theorem mo_X9_mostOf : MOv x_X9_mostOf 2 := ⟨⟨(mt6 _ (List.mem_of_getElem? (i := 23) rfl)), (mt1 _ (List.mem_of_getElem? (i := 10) rfl)), ⟨by decide +kernel, by decide +kernel, by decide +kernel⟩, by decide +kernel⟩, (mt6 _ (List.mem_of_getElem? (i := 22) rfl)), (mp _ (List.mem_of_getElem? (i := 52) rfl : (yX9_mostOf, 47) ∈ lw_privs))⟩
def x_X9_blind : Mx := (yX9_blind, cX9_blind, 7, (some .int))
theorem mo_X9_blind : MOv x_X9_blind 1 := ⟨⟨(mt6 _ (List.mem_of_getElem? (i := 19) rfl)), (mt1 _ (List.mem_of_getElem? (i := 10) rfl)), ⟨by decide +kernel, by decide +kernel, by decide +kernel⟩, by decide +kernel⟩, (mt6 _ (List.mem_of_getElem? (i := 17) rfl)), (mt6 _ (List.mem_of_getElem? (i := 18) rfl))⟩
def x_X9_isBefore : Mx := (yX9_isBefore, cX9_isBefore, 9, (some .boolean))
theorem mo_X9_isBefore : MOv x_X9_isBefore 8 := ⟨⟨(mt6 _ (List.mem_of_getElem? (i := 31) rfl)), (mt1 _ (List.mem_of_getElem? (i := 10) rfl)), ⟨by decide +kernel, by decide +kernel, by decide +kernel⟩, by decide +kernel⟩, (mt6 _ (List.mem_of_getElem? (i := 30) rfl)), (mp _ (List.mem_of_getElem? (i := 53) rfl : (yX9_isBefore, 47) ∈ lw_privs))⟩
def x_X9_slanted : Mx := (yX9_slanted, cX9_slanted, 14, (some .int))
theorem mo_X9_slanted : MOv x_X9_slanted 1 := ⟨⟨(mt6 _ (List.mem_of_getElem? (i := 27) rfl)), (mt1 _ (List.mem_of_getElem? (i := 10) rfl)), ⟨by decide +kernel, by decide +kernel, by decide +kernel⟩, by decide +kernel⟩, (mt6 _ (List.mem_of_getElem? (i := 25) rfl)), (mt6 _ (List.mem_of_getElem? (i := 26) rfl))⟩
def x_X9_isNew : Mx := (yX9_isNew, cX9_isNew, 6, (some .boolean))
theorem mo_X9_isNew : MOv x_X9_isNew 1 := ⟨⟨(mt6 _ (List.mem_of_getElem? (i := 39) rfl)), (mt1 _ (List.mem_of_getElem? (i := 10) rfl)), ⟨by decide +kernel, by decide +kernel, by decide +kernel⟩, by decide +kernel⟩, (mt6 _ (List.mem_of_getElem? (i := 38) rfl)), (mp _ (List.mem_of_getElem? (i := 54) rfl : (yX9_isNew, 47) ∈ lw_privs))⟩
def x_X9_power : Mx := (yX9_power, cX9_power, 5, (some .int))
theorem mo_X9_power : MOv x_X9_power 1 := ⟨⟨(mt6 _ (List.mem_of_getElem? (i := 35) rfl)), (mt1 _ (List.mem_of_getElem? (i := 10) rfl)), ⟨by decide +kernel, by decide +kernel, by decide +kernel⟩, by decide +kernel⟩, (mt6 _ (List.mem_of_getElem? (i := 33) rfl)), (mt6 _ (List.mem_of_getElem? (i := 34) rfl))⟩
def x_X9_isMove : Mx := (yX9_isMove, cX9_isMove, 3, (some .boolean))
theorem mo_X9_isMove : MOv x_X9_isMove 2 := ⟨⟨(mt6 _ (List.mem_of_getElem? (i := 52) rfl)), (mt1 _ (List.mem_of_getElem? (i := 10) rfl)), ⟨by decide +kernel, by decide +kernel, by decide +kernel⟩, by decide +kernel⟩, (mt6 _ (List.mem_of_getElem? (i := 51) rfl)), (mp _ (List.mem_of_getElem? (i := 56) rfl : (yX9_isMove, 47) ∈ lw_privs))⟩
def x_X9_worthOf : Mx := (yX9_worthOf, cX9_worthOf, 11, (some .int))
theorem mo_X9_worthOf : MOv x_X9_worthOf 3 := ⟨⟨(mt6 _ (List.mem_of_getElem? (i := 48) rfl)), (mt1 _ (List.mem_of_getElem? (i := 10) rfl)), ⟨by decide +kernel, by decide +kernel, by decide +kernel⟩, by decide +kernel⟩, (mt6 _ (List.mem_of_getElem? (i := 47) rfl)), (mp _ (List.mem_of_getElem? (i := 55) rfl : (yX9_worthOf, 47) ∈ lw_privs))⟩
def x_X9_best : Mx := (yX9_best, cX9_best, 7, (some .int))
theorem mo_X9_best : MOv x_X9_best 2 := ⟨⟨(mt6 _ (List.mem_of_getElem? (i := 56) rfl)), (mt1 _ (List.mem_of_getElem? (i := 10) rfl)), ⟨by decide +kernel, by decide +kernel, by decide +kernel⟩, by decide +kernel⟩, (mt6 _ (List.mem_of_getElem? (i := 55) rfl)), (mp _ (List.mem_of_getElem? (i := 57) rfl : (yX9_best, 47) ∈ lw_privs))⟩
def x_X9_duel : Mx := (yX9_duel, cX9_duel, 8, (some .int))
theorem mo_X9_duel : MOv x_X9_duel 3 := ⟨⟨(mt6 _ (List.mem_of_getElem? (i := 43) rfl)), (mt1 _ (List.mem_of_getElem? (i := 10) rfl)), ⟨by decide +kernel, by decide +kernel, by decide +kernel⟩, by decide +kernel⟩, (mt6 _ (List.mem_of_getElem? (i := 41) rfl)), (mt6 _ (List.mem_of_getElem? (i := 42) rfl))⟩
def x_X9_turned : Mx := (yX9_turned, cX9_turned, 3, (some .int))
theorem mo_X9_turned : MOv x_X9_turned 2 := ⟨⟨(mt6 _ (List.mem_of_getElem? (i := 60) rfl)), (mt1 _ (List.mem_of_getElem? (i := 10) rfl)), ⟨by decide +kernel, by decide +kernel, by decide +kernel⟩, by decide +kernel⟩, (mt6 _ (List.mem_of_getElem? (i := 58) rfl)), (mt6 _ (List.mem_of_getElem? (i := 59) rfl))⟩
def x_X9_spoilt : Mx := (yX9_spoilt, cX9_spoilt, 5, (some .int))
theorem mo_X9_spoilt : MOv x_X9_spoilt 1 := ⟨⟨(mt6 _ (List.mem_of_getElem? (i := 64) rfl)), (mt1 _ (List.mem_of_getElem? (i := 10) rfl)), ⟨by decide +kernel, by decide +kernel, by decide +kernel⟩, by decide +kernel⟩, (mt6 _ (List.mem_of_getElem? (i := 62) rfl)), (mt6 _ (List.mem_of_getElem? (i := 63) rfl))⟩
def x_X9_both : Mx := (yX9_both, cX9_both, 7, (some .int))
theorem mo_X9_both : MOv x_X9_both 1 := ⟨⟨(mt6 _ (List.mem_of_getElem? (i := 68) rfl)), (mt1 _ (List.mem_of_getElem? (i := 10) rfl)), ⟨by decide +kernel, by decide +kernel, by decide +kernel⟩, by decide +kernel⟩, (mt6 _ (List.mem_of_getElem? (i := 66) rfl)), (mt6 _ (List.mem_of_getElem? (i := 67) rfl))⟩
def x_X9_mirrored : Mx := (yX9_mirrored, cX9_mirrored, 8, (some .long))
theorem mo_X9_mirrored : MOs x_X9_mirrored 3 := ⟨⟨(mt6 _ (List.mem_of_getElem? (i := 78) rfl)), (mt1 _ (List.mem_of_getElem? (i := 10) rfl)), ⟨by decide +kernel, by decide +kernel, by decide +kernel⟩, by decide +kernel⟩, (mt6 _ (List.mem_of_getElem? (i := 77) rfl))⟩
def x_X9_quarter : Mx := (yX9_quarter, cX9_quarter, 8, (some .long))
theorem mo_X9_quarter : MOs x_X9_quarter 3 := ⟨⟨(mt6 _ (List.mem_of_getElem? (i := 81) rfl)), (mt1 _ (List.mem_of_getElem? (i := 10) rfl)), ⟨by decide +kernel, by decide +kernel, by decide +kernel⟩, by decide +kernel⟩, (mt6 _ (List.mem_of_getElem? (i := 80) rfl))⟩
def x_X9_rotated : Mx := (yX9_rotated, cX9_rotated, 8, (some .long))
theorem mo_X9_rotated : MOs x_X9_rotated 4 := ⟨⟨(mt6 _ (List.mem_of_getElem? (i := 75) rfl)), (mt1 _ (List.mem_of_getElem? (i := 10) rfl)), ⟨by decide +kernel, by decide +kernel, by decide +kernel⟩, by decide +kernel⟩, (mt6 _ (List.mem_of_getElem? (i := 74) rfl))⟩
def x_X9_endsPattern : Mx := (yX9_endsPattern, cX9_endsPattern, 1, none)
theorem mo_X9_endsPattern : MOv x_X9_endsPattern 0 := ⟨⟨(mt6 _ (List.mem_of_getElem? (i := 89) rfl)), (mt1 _ (List.mem_of_getElem? (i := 10) rfl)), ⟨by decide +kernel, by decide +kernel, by decide +kernel⟩, by decide +kernel⟩, (mt6 _ (List.mem_of_getElem? (i := 88) rfl)), (mp _ (List.mem_of_getElem? (i := 58) rfl : (yX9_endsPattern, 47) ∈ lw_privs))⟩
def x_X9_rotate : Mx := (yX9_rotate, cX9_rotate, 3, (some .int))
theorem mo_X9_rotate : MOv x_X9_rotate 1 := ⟨⟨(mt6 _ (List.mem_of_getElem? (i := 72) rfl)), (mt1 _ (List.mem_of_getElem? (i := 10) rfl)), ⟨by decide +kernel, by decide +kernel, by decide +kernel⟩, by decide +kernel⟩, (mt6 _ (List.mem_of_getElem? (i := 70) rfl)), (mt6 _ (List.mem_of_getElem? (i := 71) rfl))⟩
def x_X9_cut : Mx := (yX9_cut, cX9_cut, 9, (some .int))
theorem mo_X9_cut : MOv x_X9_cut 4 := ⟨⟨(mt6 _ (List.mem_of_getElem? (i := 85) rfl)), (mt1 _ (List.mem_of_getElem? (i := 10) rfl)), ⟨by decide +kernel, by decide +kernel, by decide +kernel⟩, by decide +kernel⟩, (mt6 _ (List.mem_of_getElem? (i := 83) rfl)), (mt6 _ (List.mem_of_getElem? (i := 84) rfl))⟩
def x_X9_sew : Mx := (yX9_sew, cX9_sew, 3, (some .int))
theorem mo_X9_sew : MOv x_X9_sew 2 := ⟨⟨(mt6 _ (List.mem_of_getElem? (i := 93) rfl)), (mt1 _ (List.mem_of_getElem? (i := 10) rfl)), ⟨by decide +kernel, by decide +kernel, by decide +kernel⟩, by decide +kernel⟩, (mt6 _ (List.mem_of_getElem? (i := 91) rfl)), (mt6 _ (List.mem_of_getElem? (i := 92) rfl))⟩
def x_X9_findName : Mx := (yX9_findName, cX9_findName, 10, none)
theorem mo_X9_findName : MOv x_X9_findName 3 := ⟨⟨(mt6 _ (List.mem_of_getElem? (i := 101) rfl)), (mt1 _ (List.mem_of_getElem? (i := 10) rfl)), ⟨by decide +kernel, by decide +kernel, by decide +kernel⟩, by decide +kernel⟩, (mt6 _ (List.mem_of_getElem? (i := 100) rfl)), (mp _ (List.mem_of_getElem? (i := 59) rfl : (yX9_findName, 47) ∈ lw_privs))⟩
def x_X9_name : Mx := (yX9_name, cX9_name, 2, (some .long))
theorem mo_X9_name : MOv x_X9_name 1 := ⟨⟨(mt6 _ (List.mem_of_getElem? (i := 97) rfl)), (mt1 _ (List.mem_of_getElem? (i := 10) rfl)), ⟨by decide +kernel, by decide +kernel, by decide +kernel⟩, by decide +kernel⟩, (mt6 _ (List.mem_of_getElem? (i := 95) rfl)), (mt6 _ (List.mem_of_getElem? (i := 96) rfl))⟩
def x_X9_cousin : Mx := (yX9_cousin, cX9_cousin, 6, (some .int))
theorem mo_X9_cousin : MOv x_X9_cousin 1 := ⟨⟨(mt6 _ (List.mem_of_getElem? (i := 105) rfl)), (mt1 _ (List.mem_of_getElem? (i := 10) rfl)), ⟨by decide +kernel, by decide +kernel, by decide +kernel⟩, by decide +kernel⟩, (mt6 _ (List.mem_of_getElem? (i := 103) rfl)), (mt6 _ (List.mem_of_getElem? (i := 104) rfl))⟩
def x_X9_keep : Mx := (yX9_keep, cX9_keep, 3, (some .int))
theorem mo_X9_keep : MOv x_X9_keep 1 := ⟨⟨(mt6 _ (List.mem_of_getElem? (i := 109) rfl)), (mt1 _ (List.mem_of_getElem? (i := 10) rfl)), ⟨by decide +kernel, by decide +kernel, by decide +kernel⟩, by decide +kernel⟩, (mt6 _ (List.mem_of_getElem? (i := 107) rfl)), (mt6 _ (List.mem_of_getElem? (i := 108) rfl))⟩
def x_X9_back : Mx := (yX9_back, cX9_back, 2, (some .int))
theorem mo_X9_back : MOv x_X9_back 1 := ⟨⟨(mt6 _ (List.mem_of_getElem? (i := 113) rfl)), (mt1 _ (List.mem_of_getElem? (i := 10) rfl)), ⟨by decide +kernel, by decide +kernel, by decide +kernel⟩, by decide +kernel⟩, (mt6 _ (List.mem_of_getElem? (i := 111) rfl)), (mt6 _ (List.mem_of_getElem? (i := 112) rfl))⟩
def x_X9_isSheet : Mx := (yX9_isSheet, cX9_isSheet, 2, (some .boolean))
theorem mo_X9_isSheet : MOs x_X9_isSheet 2 := ⟨⟨(mt6 _ (List.mem_of_getElem? (i := 120) rfl)), (mt1 _ (List.mem_of_getElem? (i := 10) rfl)), ⟨by decide +kernel, by decide +kernel, by decide +kernel⟩, by decide +kernel⟩, (mt6 _ (List.mem_of_getElem? (i := 119) rfl))⟩
def x_X9_sheet : Mx := (yX9_sheet, cX9_sheet, 5, (some .int))
theorem mo_X9_sheet : MOv x_X9_sheet 3 := ⟨⟨(mt6 _ (List.mem_of_getElem? (i := 117) rfl)), (mt1 _ (List.mem_of_getElem? (i := 10) rfl)), ⟨by decide +kernel, by decide +kernel, by decide +kernel⟩, by decide +kernel⟩, (mt6 _ (List.mem_of_getElem? (i := 115) rfl)), (mt6 _ (List.mem_of_getElem? (i := 116) rfl))⟩
def x_X9_lay : Mx := (yX9_lay, cX9_lay, 4, (some .int))
theorem mo_X9_lay : MOv x_X9_lay 3 := ⟨⟨(mt6 _ (List.mem_of_getElem? (i := 124) rfl)), (mt1 _ (List.mem_of_getElem? (i := 10) rfl)), ⟨by decide +kernel, by decide +kernel, by decide +kernel⟩, by decide +kernel⟩, (mt6 _ (List.mem_of_getElem? (i := 122) rfl)), (mt6 _ (List.mem_of_getElem? (i := 123) rfl))⟩
def x_X9_read : Mx := (yX9_read, cX9_read, 11, (some .int))
theorem mo_X9_read : MOv x_X9_read 4 := ⟨⟨(mt6 _ (List.mem_of_getElem? (i := 128) rfl)), (mt1 _ (List.mem_of_getElem? (i := 10) rfl)), ⟨by decide +kernel, by decide +kernel, by decide +kernel⟩, by decide +kernel⟩, (mt6 _ (List.mem_of_getElem? (i := 126) rfl)), (mt6 _ (List.mem_of_getElem? (i := 127) rfl))⟩
def x_X9_torn : Mx := (yX9_torn, cX9_torn, 1, (some .int))
theorem mo_X9_torn : MOv x_X9_torn 0 := ⟨⟨(mt6 _ (List.mem_of_getElem? (i := 133) rfl)), (mt1 _ (List.mem_of_getElem? (i := 10) rfl)), ⟨by decide +kernel, by decide +kernel, by decide +kernel⟩, by decide +kernel⟩, (mt6 _ (List.mem_of_getElem? (i := 131) rfl)), (mt6 _ (List.mem_of_getElem? (i := 132) rfl))⟩
def x_X9_count : Mx := (yX9_count, cX9_count, 2, (some .int))
theorem mo_X9_count : MOv x_X9_count 1 := ⟨⟨(mt6 _ (List.mem_of_getElem? (i := 137) rfl)), (mt1 _ (List.mem_of_getElem? (i := 10) rfl)), ⟨by decide +kernel, by decide +kernel, by decide +kernel⟩, by decide +kernel⟩, (mt6 _ (List.mem_of_getElem? (i := 135) rfl)), (mt6 _ (List.mem_of_getElem? (i := 136) rfl))⟩
def x_J6_bitCount_0f7a4 : Mx := (yJ6_bitCount_0f7a4, cJ6_bitCount_0f7a4, 1, (some .int))
theorem mo_J6_bitCount_0f7a4 : MOs x_J6_bitCount_0f7a4 1 := ⟨⟨(mt3 _ (List.mem_of_getElem? (i := 136) rfl)), (mt1 _ (List.mem_of_getElem? (i := 16) rfl)), ⟨by decide +kernel, by decide +kernel, by decide +kernel⟩, by decide +kernel⟩, (mt3 _ (List.mem_of_getElem? (i := 135) rfl))⟩
def x_J13_bitCount_95d88 : Mx := (yJ13_bitCount_95d88, cJ13_bitCount_95d88, 2, (some .int))
theorem mo_J13_bitCount_95d88 : MOs x_J13_bitCount_95d88 1 := ⟨⟨(mt3 _ (List.mem_of_getElem? (i := 59) rfl)), (mt1 _ (List.mem_of_getElem? (i := 15) rfl)), ⟨by decide +kernel, by decide +kernel, by decide +kernel⟩, by decide +kernel⟩, (mt3 _ (List.mem_of_getElem? (i := 58) rfl))⟩
def x_J0_length_8abf5 : Mx := (yJ0_length_8abf5, cJ0_length_8abf5, 1, (some .int))
theorem mo_J0_length_8abf5 : MOv x_J0_length_8abf5 0 := ⟨⟨(mt2 _ (List.mem_of_getElem? (i := 101) rfl)), (mt1 _ (List.mem_of_getElem? (i := 11) rfl)), ⟨by decide +kernel, by decide +kernel, by decide +kernel⟩, by decide +kernel⟩, (mt2 _ (List.mem_of_getElem? (i := 99) rfl)), (mt2 _ (List.mem_of_getElem? (i := 100) rfl))⟩
def x_J0_charAt_5068e : Mx := (yJ0_charAt_5068e, cJ0_charAt_5068e, 2, (some .char))
theorem mo_J0_charAt_5068e : MOv x_J0_charAt_5068e 1 := ⟨⟨(mt2 _ (List.mem_of_getElem? (i := 111) rfl)), (mt1 _ (List.mem_of_getElem? (i := 11) rfl)), ⟨by decide +kernel, by decide +kernel, by decide +kernel⟩, by decide +kernel⟩, (mt2 _ (List.mem_of_getElem? (i := 109) rfl)), (mt2 _ (List.mem_of_getElem? (i := 110) rfl))⟩
def x_J0_coder_7d493 : Mx := (yJ0_coder_7d493, cJ0_coder_7d493, 1, (some .byte))
theorem mo_J0_coder_7d493 : MOv x_J0_coder_7d493 0 := ⟨⟨(mt2 _ (List.mem_of_getElem? (i := 105) rfl)), (mt1 _ (List.mem_of_getElem? (i := 11) rfl)), ⟨by decide +kernel, by decide +kernel, by decide +kernel⟩, by decide +kernel⟩, (mt2 _ (List.mem_of_getElem? (i := 103) rfl)), (mt2 _ (List.mem_of_getElem? (i := 104) rfl))⟩
def x_J0_isLatin1_aae02 : Mx := (yJ0_isLatin1_aae02, cJ0_isLatin1_aae02, 1, (some .boolean))
theorem mo_J0_isLatin1_aae02 : MOv x_J0_isLatin1_aae02 0 := ⟨⟨(mt2 _ (List.mem_of_getElem? (i := 115) rfl)), (mt1 _ (List.mem_of_getElem? (i := 11) rfl)), ⟨by decide +kernel, by decide +kernel, by decide +kernel⟩, by decide +kernel⟩, (mt2 _ (List.mem_of_getElem? (i := 113) rfl)), (mt2 _ (List.mem_of_getElem? (i := 114) rfl))⟩
def x_J0_checkIndex_df160 : Mx := (yJ0_checkIndex_df160, cJ0_checkIndex_df160, 2, none)
theorem mo_J0_checkIndex_df160 : MOs x_J0_checkIndex_df160 2 := ⟨⟨(mt2 _ (List.mem_of_getElem? (i := 121) rfl)), (mt1 _ (List.mem_of_getElem? (i := 11) rfl)), ⟨by decide +kernel, by decide +kernel, by decide +kernel⟩, by decide +kernel⟩, (mt2 _ (List.mem_of_getElem? (i := 120) rfl))⟩
def x_J1_charAt_3b067 : Mx := (yJ1_charAt_3b067, cJ1_charAt_3b067, 2, (some .char))
theorem mo_J1_charAt_3b067 : MOs x_J1_charAt_3b067 2 := ⟨⟨(mt2 _ (List.mem_of_getElem? (i := 118) rfl)), (mt1 _ (List.mem_of_getElem? (i := 12) rfl)), ⟨by decide +kernel, by decide +kernel, by decide +kernel⟩, by decide +kernel⟩, (mt2 _ (List.mem_of_getElem? (i := 117) rfl))⟩
def x_J2_getChar_3b067 : Mx := (yJ2_getChar_3b067, cJ2_getChar_3b067, 2, (some .char))
theorem mo_J2_getChar_3b067 : MOs x_J2_getChar_3b067 2 := ⟨⟨(mt2 _ (List.mem_of_getElem? (i := 139) rfl)), (mt1 _ (List.mem_of_getElem? (i := 14) rfl)), ⟨by decide +kernel, by decide +kernel, by decide +kernel⟩, by decide +kernel⟩, (mt2 _ (List.mem_of_getElem? (i := 138) rfl))⟩
def x_J2_length_9d52b : Mx := (yJ2_length_9d52b, cJ2_length_9d52b, 1, (some .int))
theorem mo_J2_length_9d52b : MOs x_J2_length_9d52b 1 := ⟨⟨(mt2 _ (List.mem_of_getElem? (i := 135) rfl)), (mt1 _ (List.mem_of_getElem? (i := 14) rfl)), ⟨by decide +kernel, by decide +kernel, by decide +kernel⟩, by decide +kernel⟩, (mt2 _ (List.mem_of_getElem? (i := 134) rfl))⟩
def x_J2_charAt_3b067 : Mx := (yJ2_charAt_3b067, cJ2_charAt_3b067, 2, (some .char))
theorem mo_J2_charAt_3b067 : MOs x_J2_charAt_3b067 2 := ⟨⟨(mt2 _ (List.mem_of_getElem? (i := 129) rfl)), (mt1 _ (List.mem_of_getElem? (i := 14) rfl)), ⟨by decide +kernel, by decide +kernel, by decide +kernel⟩, by decide +kernel⟩, (mt2 _ (List.mem_of_getElem? (i := 128) rfl))⟩
def x_J2_checkIndex_2214a : Mx := (yJ2_checkIndex_2214a, cJ2_checkIndex_2214a, 2, none)
theorem mo_J2_checkIndex_2214a : MOs x_J2_checkIndex_2214a 2 := ⟨⟨(mt2 _ (List.mem_of_getElem? (i := 132) rfl)), (mt1 _ (List.mem_of_getElem? (i := 14) rfl)), ⟨by decide +kernel, by decide +kernel, by decide +kernel⟩, by decide +kernel⟩, (mt2 _ (List.mem_of_getElem? (i := 131) rfl))⟩
def x_J3_checkIndex_8e157 : Mx := (yJ3_checkIndex_8e157, cJ3_checkIndex_8e157, 3, (some .int))
theorem mo_J3_checkIndex_8e157 : MOs x_J3_checkIndex_8e157 3 := ⟨⟨(mt2 _ (List.mem_of_getElem? (i := 126) rfl)), (mt1 _ (List.mem_of_getElem? (i := 13) rfl)), ⟨by decide +kernel, by decide +kernel, by decide +kernel⟩, by decide +kernel⟩, (mt2 _ (List.mem_of_getElem? (i := 125) rfl))⟩
theorem ii_L : Cond.initialized RL ∈ lw_tbl := (mt1 _ (List.mem_of_getElem? (i := 0) rfl))
theorem ii_X8 : Cond.initialized RX8 ∈ lw_tbl := (mt1 _ (List.mem_of_getElem? (i := 1) rfl))
theorem ii_X0 : Cond.initialized RX0 ∈ lw_tbl := (mt1 _ (List.mem_of_getElem? (i := 2) rfl))
theorem ii_X1 : Cond.initialized RX1 ∈ lw_tbl := (mt1 _ (List.mem_of_getElem? (i := 3) rfl))
theorem ii_X5 : Cond.initialized RX5 ∈ lw_tbl := (mt1 _ (List.mem_of_getElem? (i := 4) rfl))
theorem ii_X6 : Cond.initialized RX6 ∈ lw_tbl := (mt1 _ (List.mem_of_getElem? (i := 5) rfl))
theorem ii_X4 : Cond.initialized RX4 ∈ lw_tbl := (mt1 _ (List.mem_of_getElem? (i := 6) rfl))
theorem ii_X3 : Cond.initialized RX3 ∈ lw_tbl := (mt1 _ (List.mem_of_getElem? (i := 7) rfl))
theorem ii_X7 : Cond.initialized RX7 ∈ lw_tbl := (mt1 _ (List.mem_of_getElem? (i := 8) rfl))
theorem ii_X2 : Cond.initialized RX2 ∈ lw_tbl := (mt1 _ (List.mem_of_getElem? (i := 9) rfl))
theorem ii_X9 : Cond.initialized RX9 ∈ lw_tbl := (mt1 _ (List.mem_of_getElem? (i := 10) rfl))
theorem ii_J0 : Cond.initialized RJ0 ∈ lw_tbl := (mt1 _ (List.mem_of_getElem? (i := 11) rfl))
theorem ii_J1 : Cond.initialized RJ1 ∈ lw_tbl := (mt1 _ (List.mem_of_getElem? (i := 12) rfl))
theorem ii_J3 : Cond.initialized RJ3 ∈ lw_tbl := (mt1 _ (List.mem_of_getElem? (i := 13) rfl))
theorem ii_J2 : Cond.initialized RJ2 ∈ lw_tbl := (mt1 _ (List.mem_of_getElem? (i := 14) rfl))
theorem ii_J13 : Cond.initialized RJ13 ∈ lw_tbl := (mt1 _ (List.mem_of_getElem? (i := 15) rfl))
theorem ii_J6 : Cond.initialized RJ6 ∈ lw_tbl := (mt1 _ (List.mem_of_getElem? (i := 16) rfl))
theorem ii_J9 : Cond.initialized RJ9 ∈ lw_tbl := (mt1 _ (List.mem_of_getElem? (i := 17) rfl))
theorem cl_L_7 : Cond.classLink RL 7 RX8 ∈ lw_tbl := (mt1 _ (List.mem_of_getElem? (i := 18) rfl))
theorem is_X8 : Cond.instantiable RX8 15 ∈ lw_tbl := (mt1 _ (List.mem_of_getElem? (i := 19) rfl))
theorem ml_L_9 : Cond.methodLink RL 9 yX8_init ∈ lw_tbl := (mt1 _ (List.mem_of_getElem? (i := 20) rfl))
theorem ml_X8_3 : Cond.methodLink RX8 3 Lib.objectInit ∈ lw_tbl := (mt1 _ (List.mem_of_getElem? (i := 23) rfl))
theorem cl_X8_9 : Cond.classLink RX8 9 RX0 ∈ lw_tbl := (mt1 _ (List.mem_of_getElem? (i := 26) rfl))
theorem is_X0 : Cond.instantiable RX0 4 ∈ lw_tbl := (mt1 _ (List.mem_of_getElem? (i := 27) rfl))
theorem ml_X8_11 : Cond.methodLink RX8 11 yX0_init ∈ lw_tbl := (mt1 _ (List.mem_of_getElem? (i := 28) rfl))
theorem ml_X0_3 : Cond.methodLink RX0 3 Lib.objectInit ∈ lw_tbl := (mt1 _ (List.mem_of_getElem? (i := 31) rfl))
theorem fl_X0_18 : Cond.fieldLink RX0 18 "RowsColumns$Cloth" "there" "Z" ∈ lw_tbl := (mt1 _ (List.mem_of_getElem? (i := 32) rfl))
theorem fl_X8_106 : Cond.fieldLink RX8 106 "RowsColumns$Cloth" "there" "Z" ∈ lw_tbl := (mt1 _ (List.mem_of_getElem? (i := 33) rfl))
theorem fl_X6_89 : Cond.fieldLink RX6 89 "RowsColumns$Cloth" "there" "Z" ∈ lw_tbl := (mt1 _ (List.mem_of_getElem? (i := 34) rfl))
theorem fl_X0_11 : Cond.fieldLink RX0 11 "RowsColumns$Cloth" "high" "I" ∈ lw_tbl := (mt1 _ (List.mem_of_getElem? (i := 35) rfl))
theorem fl_X2_27 : Cond.fieldLink RX2 27 "RowsColumns$Cloth" "high" "I" ∈ lw_tbl := (mt1 _ (List.mem_of_getElem? (i := 36) rfl))
theorem fl_X7_62 : Cond.fieldLink RX7 62 "RowsColumns$Cloth" "high" "I" ∈ lw_tbl := (mt1 _ (List.mem_of_getElem? (i := 37) rfl))
theorem fl_X6_93 : Cond.fieldLink RX6 93 "RowsColumns$Cloth" "high" "I" ∈ lw_tbl := (mt1 _ (List.mem_of_getElem? (i := 38) rfl))
theorem fl_X8_117 : Cond.fieldLink RX8 117 "RowsColumns$Cloth" "high" "I" ∈ lw_tbl := (mt1 _ (List.mem_of_getElem? (i := 39) rfl))
theorem fl_X0_15 : Cond.fieldLink RX0 15 "RowsColumns$Cloth" "wide" "I" ∈ lw_tbl := (mt1 _ (List.mem_of_getElem? (i := 40) rfl))
theorem fl_X2_31 : Cond.fieldLink RX2 31 "RowsColumns$Cloth" "wide" "I" ∈ lw_tbl := (mt1 _ (List.mem_of_getElem? (i := 41) rfl))
theorem fl_X7_65 : Cond.fieldLink RX7 65 "RowsColumns$Cloth" "wide" "I" ∈ lw_tbl := (mt1 _ (List.mem_of_getElem? (i := 42) rfl))
theorem fl_X6_102 : Cond.fieldLink RX6 102 "RowsColumns$Cloth" "wide" "I" ∈ lw_tbl := (mt1 _ (List.mem_of_getElem? (i := 43) rfl))
theorem fl_X8_120 : Cond.fieldLink RX8 120 "RowsColumns$Cloth" "wide" "I" ∈ lw_tbl := (mt1 _ (List.mem_of_getElem? (i := 44) rfl))
theorem fl_X0_22 : Cond.fieldLink RX0 22 "RowsColumns$Cloth" "dark" "J" ∈ lw_tbl := (mt1 _ (List.mem_of_getElem? (i := 45) rfl))
theorem fl_X2_19 : Cond.fieldLink RX2 19 "RowsColumns$Cloth" "dark" "J" ∈ lw_tbl := (mt1 _ (List.mem_of_getElem? (i := 46) rfl))
theorem fl_X6_109 : Cond.fieldLink RX6 109 "RowsColumns$Cloth" "dark" "J" ∈ lw_tbl := (mt1 _ (List.mem_of_getElem? (i := 47) rfl))
theorem fl_X8_137 : Cond.fieldLink RX8 137 "RowsColumns$Cloth" "dark" "J" ∈ lw_tbl := (mt1 _ (List.mem_of_getElem? (i := 48) rfl))
theorem cl_X8_30 : Cond.classLink RX8 30 RX1 ∈ lw_tbl := (mt1 _ (List.mem_of_getElem? (i := 58) rfl))
theorem is_X1 : Cond.instantiable RX1 3 ∈ lw_tbl := (mt1 _ (List.mem_of_getElem? (i := 59) rfl))
theorem mn_X8_32 : Cond.methodLinkNest RX8 32 yX1_init "RowsColumns" ∈ lw_tbl := (mt1 _ (List.mem_of_getElem? (i := 60) rfl))
theorem ml_X1_1 : Cond.methodLink RX1 1 Lib.objectInit ∈ lw_tbl := (mt1 _ (List.mem_of_getElem? (i := 63) rfl))
theorem fl_X1_16 : Cond.fieldLink RX1 16 "RowsColumns$Days" "many" "I" ∈ lw_tbl := (mt1 _ (List.mem_of_getElem? (i := 64) rfl))
theorem fl_X8_123 : Cond.fieldLink RX8 123 "RowsColumns$Days" "many" "I" ∈ lw_tbl := (mt1 _ (List.mem_of_getElem? (i := 65) rfl))
theorem fl_X6_113 : Cond.fieldLink RX6 113 "RowsColumns$Days" "many" "I" ∈ lw_tbl := (mt1 _ (List.mem_of_getElem? (i := 66) rfl))
theorem fl_X1_9 : Cond.fieldLink RX1 9 "RowsColumns$Days" "acts" "[I" ∈ lw_tbl := (mt1 _ (List.mem_of_getElem? (i := 67) rfl))
theorem fl_X1_13 : Cond.fieldLink RX1 13 "RowsColumns$Days" "codes" "[I" ∈ lw_tbl := (mt1 _ (List.mem_of_getElem? (i := 68) rfl))
theorem ac_int : Cond.arrayClass .int ∈ lw_tbl := (mt1 _ (List.mem_of_getElem? (i := 76) rfl))
theorem cl_X8_37 : Cond.classLink RX8 37 RX5 ∈ lw_tbl := (mt1 _ (List.mem_of_getElem? (i := 77) rfl))
theorem is_X5 : Cond.instantiable RX5 2 ∈ lw_tbl := (mt1 _ (List.mem_of_getElem? (i := 78) rfl))
theorem mn_X8_39 : Cond.methodLinkNest RX8 39 yX5_init "RowsColumns" ∈ lw_tbl := (mt1 _ (List.mem_of_getElem? (i := 79) rfl))
theorem ml_X5_1 : Cond.methodLink RX5 1 Lib.objectInit ∈ lw_tbl := (mt1 _ (List.mem_of_getElem? (i := 82) rfl))
theorem fl_X5_13 : Cond.fieldLink RX5 13 "RowsColumns$Tape" "length" "I" ∈ lw_tbl := (mt1 _ (List.mem_of_getElem? (i := 83) rfl))
theorem fl_X8_85 : Cond.fieldLink RX8 85 "RowsColumns$Tape" "length" "I" ∈ lw_tbl := (mt1 _ (List.mem_of_getElem? (i := 84) rfl))
theorem fl_X6_165 : Cond.fieldLink RX6 165 "RowsColumns$Tape" "length" "I" ∈ lw_tbl := (mt1 _ (List.mem_of_getElem? (i := 85) rfl))
theorem fl_X5_9 : Cond.fieldLink RX5 9 "RowsColumns$Tape" "bytes" "[B" ∈ lw_tbl := (mt1 _ (List.mem_of_getElem? (i := 86) rfl))
theorem ac_byte : Cond.arrayClass .byte ∈ lw_tbl := (mt1 _ (List.mem_of_getElem? (i := 92) rfl))
theorem cl_X8_44 : Cond.classLink RX8 44 RX6 ∈ lw_tbl := (mt1 _ (List.mem_of_getElem? (i := 93) rfl))
theorem is_X6 : Cond.instantiable RX6 10 ∈ lw_tbl := (mt1 _ (List.mem_of_getElem? (i := 94) rfl))
theorem ml_X8_46 : Cond.methodLink RX8 46 yX6_init ∈ lw_tbl := (mt1 _ (List.mem_of_getElem? (i := 95) rfl))
theorem ml_X6_3 : Cond.methodLink RX6 3 Lib.objectInit ∈ lw_tbl := (mt1 _ (List.mem_of_getElem? (i := 98) rfl))
theorem cl_X6_9 : Cond.classLink RX6 9 RX0 ∈ lw_tbl := (mt1 _ (List.mem_of_getElem? (i := 99) rfl))
theorem ml_X6_11 : Cond.methodLink RX6 11 yX0_init ∈ lw_tbl := (mt1 _ (List.mem_of_getElem? (i := 100) rfl))
theorem cl_X6_23 : Cond.classLink RX6 23 RX1 ∈ lw_tbl := (mt1 _ (List.mem_of_getElem? (i := 101) rfl))
theorem mn_X6_25 : Cond.methodLinkNest RX6 25 yX1_init "RowsColumns" ∈ lw_tbl := (mt1 _ (List.mem_of_getElem? (i := 102) rfl))
theorem fl_X6_14 : Cond.fieldLink RX6 14 "RowsColumns$Teller" "told" "LRowsColumns$Cloth;" ∈ lw_tbl := (mt1 _ (List.mem_of_getElem? (i := 103) rfl))
theorem fl_X8_99 : Cond.fieldLink RX8 99 "RowsColumns$Teller" "told" "LRowsColumns$Cloth;" ∈ lw_tbl := (mt1 _ (List.mem_of_getElem? (i := 104) rfl))
theorem fl_X6_20 : Cond.fieldLink RX6 20 "RowsColumns$Teller" "wished" "LRowsColumns$Cloth;" ∈ lw_tbl := (mt1 _ (List.mem_of_getElem? (i := 105) rfl))
theorem fl_X8_110 : Cond.fieldLink RX8 110 "RowsColumns$Teller" "wished" "LRowsColumns$Cloth;" ∈ lw_tbl := (mt1 _ (List.mem_of_getElem? (i := 106) rfl))
theorem fl_X6_26 : Cond.fieldLink RX6 26 "RowsColumns$Teller" "days" "LRowsColumns$Days;" ∈ lw_tbl := (mt1 _ (List.mem_of_getElem? (i := 107) rfl))
theorem fl_X8_113 : Cond.fieldLink RX8 113 "RowsColumns$Teller" "days" "LRowsColumns$Days;" ∈ lw_tbl := (mt1 _ (List.mem_of_getElem? (i := 108) rfl))
theorem fl_X6_40 : Cond.fieldLink RX6 40 "RowsColumns$Teller" "fault" "I" ∈ lw_tbl := (mt1 _ (List.mem_of_getElem? (i := 109) rfl))
theorem fl_X8_93 : Cond.fieldLink RX8 93 "RowsColumns$Teller" "fault" "I" ∈ lw_tbl := (mt1 _ (List.mem_of_getElem? (i := 110) rfl))
theorem fl_X6_30 : Cond.fieldLink RX6 30 "RowsColumns$Teller" "tape" "LRowsColumns$Tape;" ∈ lw_tbl := (mt1 _ (List.mem_of_getElem? (i := 111) rfl))
theorem fl_X6_44 : Cond.fieldLink RX6 44 "RowsColumns$Teller" "place" "I" ∈ lw_tbl := (mt1 _ (List.mem_of_getElem? (i := 112) rfl))
theorem fl_X6_65 : Cond.fieldLink RX6 65 "RowsColumns$Teller" "token" "I" ∈ lw_tbl := (mt1 _ (List.mem_of_getElem? (i := 113) rfl))
theorem fl_X6_59 : Cond.fieldLink RX6 59 "RowsColumns$Teller" "first" "I" ∈ lw_tbl := (mt1 _ (List.mem_of_getElem? (i := 114) rfl))
theorem fl_X6_47 : Cond.fieldLink RX6 47 "RowsColumns$Teller" "next" "I" ∈ lw_tbl := (mt1 _ (List.mem_of_getElem? (i := 115) rfl))
theorem fl_X6_126 : Cond.fieldLink RX6 126 "RowsColumns$Teller" "value" "I" ∈ lw_tbl := (mt1 _ (List.mem_of_getElem? (i := 116) rfl))
theorem cl_X8_53 : Cond.classLink RX8 53 RX4 ∈ lw_tbl := (mt1 _ (List.mem_of_getElem? (i := 138) rfl))
theorem is_X4 : Cond.instantiable RX4 1 ∈ lw_tbl := (mt1 _ (List.mem_of_getElem? (i := 139) rfl))
theorem ml_X8_55 : Cond.methodLink RX8 55 yX4_init ∈ lw_tbl := (mt1 _ (List.mem_of_getElem? (i := 140) rfl))
theorem ml_X4_3 : Cond.methodLink RX4 3 Lib.objectInit ∈ lw_tbl := (mt1 _ (List.mem_of_getElem? (i := 143) rfl))
theorem cl_X4_9 : Cond.classLink RX4 9 RX3 ∈ lw_tbl := (mt1 _ (List.mem_of_getElem? (i := 144) rfl))
theorem ao_Sheet : Cond.arrayOver (.object RX3) ∈ lw_tbl := (mt1 _ (List.mem_of_getElem? (i := 145) rfl))
theorem is_X3 : Cond.instantiable RX3 3 ∈ lw_tbl := (mt1 _ (List.mem_of_getElem? (i := 146) rfl))
theorem mn_X4_17 : Cond.methodLinkNest RX4 17 yX3_init "RowsColumns" ∈ lw_tbl := (mt1 _ (List.mem_of_getElem? (i := 147) rfl))
theorem ml_X3_3 : Cond.methodLink RX3 3 Lib.objectInit ∈ lw_tbl := (mt1 _ (List.mem_of_getElem? (i := 150) rfl))
theorem fl_X3_9 : Cond.fieldLink RX3 9 "RowsColumns$Sheet" "size" "I" ∈ lw_tbl := (mt1 _ (List.mem_of_getElem? (i := 151) rfl))
theorem fl_X4_26 : Cond.fieldLink RX4 26 "RowsColumns$Sheet" "size" "I" ∈ lw_tbl := (mt1 _ (List.mem_of_getElem? (i := 152) rfl))
theorem fl_X3_19 : Cond.fieldLink RX3 19 "RowsColumns$Sheet" "lane" "I" ∈ lw_tbl := (mt1 _ (List.mem_of_getElem? (i := 153) rfl))
theorem fl_X3_15 : Cond.fieldLink RX3 15 "RowsColumns$Sheet" "cells" "[I" ∈ lw_tbl := (mt1 _ (List.mem_of_getElem? (i := 154) rfl))
theorem fl_X4_11 : Cond.fieldLink RX4 11 "RowsColumns$Sheets" "all" "[LRowsColumns$Sheet;" ∈ lw_tbl := (mt1 _ (List.mem_of_getElem? (i := 162) rfl))
theorem cl_X8_60 : Cond.classLink RX8 60 RX7 ∈ lw_tbl := (mt1 _ (List.mem_of_getElem? (i := 166) rfl))
theorem is_X7 : Cond.instantiable RX7 10 ∈ lw_tbl := (mt1 _ (List.mem_of_getElem? (i := 167) rfl))
theorem mn_X8_62 : Cond.methodLinkNest RX8 62 yX7_init "RowsColumns" ∈ lw_tbl := (mt1 _ (List.mem_of_getElem? (i := 168) rfl))
theorem ml_X7_3 : Cond.methodLink RX7 3 Lib.objectInit ∈ lw_tbl := (mt1 _ (List.mem_of_getElem? (i := 171) rfl))
theorem fl_X7_40 : Cond.fieldLink RX7 40 "RowsColumns$Way" "found" "Z" ∈ lw_tbl := (mt1 _ (List.mem_of_getElem? (i := 172) rfl))
theorem fl_X8_195 : Cond.fieldLink RX8 195 "RowsColumns$Way" "found" "Z" ∈ lw_tbl := (mt1 _ (List.mem_of_getElem? (i := 173) rfl))
theorem fl_X7_18 : Cond.fieldLink RX7 18 "RowsColumns$Way" "rows" "I" ∈ lw_tbl := (mt1 _ (List.mem_of_getElem? (i := 174) rfl))
theorem fl_X8_198 : Cond.fieldLink RX8 198 "RowsColumns$Way" "rows" "I" ∈ lw_tbl := (mt1 _ (List.mem_of_getElem? (i := 175) rfl))
theorem fl_X7_28 : Cond.fieldLink RX7 28 "RowsColumns$Way" "columns" "I" ∈ lw_tbl := (mt1 _ (List.mem_of_getElem? (i := 176) rfl))
theorem fl_X8_206 : Cond.fieldLink RX8 206 "RowsColumns$Way" "columns" "I" ∈ lw_tbl := (mt1 _ (List.mem_of_getElem? (i := 177) rfl))
theorem fl_X7_31 : Cond.fieldLink RX7 31 "RowsColumns$Way" "slants" "I" ∈ lw_tbl := (mt1 _ (List.mem_of_getElem? (i := 178) rfl))
theorem fl_X8_330 : Cond.fieldLink RX8 330 "RowsColumns$Way" "slants" "I" ∈ lw_tbl := (mt1 _ (List.mem_of_getElem? (i := 179) rfl))
theorem fl_X7_92 : Cond.fieldLink RX7 92 "RowsColumns$Way" "unlike" "I" ∈ lw_tbl := (mt1 _ (List.mem_of_getElem? (i := 180) rfl))
theorem fl_X8_223 : Cond.fieldLink RX8 223 "RowsColumns$Way" "unlike" "I" ∈ lw_tbl := (mt1 _ (List.mem_of_getElem? (i := 181) rfl))
theorem fl_X7_95 : Cond.fieldLink RX7 95 "RowsColumns$Way" "days" "I" ∈ lw_tbl := (mt1 _ (List.mem_of_getElem? (i := 182) rfl))
theorem fl_X8_229 : Cond.fieldLink RX8 229 "RowsColumns$Way" "days" "I" ∈ lw_tbl := (mt1 _ (List.mem_of_getElem? (i := 183) rfl))
theorem fl_X7_112 : Cond.fieldLink RX7 112 "RowsColumns$Way" "many" "I" ∈ lw_tbl := (mt1 _ (List.mem_of_getElem? (i := 184) rfl))
theorem fl_X8_333 : Cond.fieldLink RX8 333 "RowsColumns$Way" "many" "I" ∈ lw_tbl := (mt1 _ (List.mem_of_getElem? (i := 185) rfl))
theorem fl_X7_115 : Cond.fieldLink RX7 115 "RowsColumns$Way" "first" "I" ∈ lw_tbl := (mt1 _ (List.mem_of_getElem? (i := 186) rfl))
theorem fl_X8_334 : Cond.fieldLink RX8 334 "RowsColumns$Way" "first" "I" ∈ lw_tbl := (mt1 _ (List.mem_of_getElem? (i := 187) rfl))
theorem fl_X7_9 : Cond.fieldLink RX7 9 "RowsColumns$Way" "slantSets" "[J" ∈ lw_tbl := (mt1 _ (List.mem_of_getElem? (i := 188) rfl))
theorem fl_X7_15 : Cond.fieldLink RX7 15 "RowsColumns$Way" "squareForms" "[J" ∈ lw_tbl := (mt1 _ (List.mem_of_getElem? (i := 189) rfl))
theorem ac_long : Cond.arrayClass .long ∈ lw_tbl := (mt1 _ (List.mem_of_getElem? (i := 211) rfl))
theorem cl_X8_67 : Cond.classLink RX8 67 RX2 ∈ lw_tbl := (mt1 _ (List.mem_of_getElem? (i := 212) rfl))
theorem is_X2 : Cond.instantiable RX2 4 ∈ lw_tbl := (mt1 _ (List.mem_of_getElem? (i := 213) rfl))
theorem mn_X8_69 : Cond.methodLinkNest RX8 69 yX2_init "RowsColumns" ∈ lw_tbl := (mt1 _ (List.mem_of_getElem? (i := 214) rfl))
theorem ml_X2_3 : Cond.methodLink RX2 3 Lib.objectInit ∈ lw_tbl := (mt1 _ (List.mem_of_getElem? (i := 217) rfl))
theorem fl_X2_42 : Cond.fieldLink RX2 42 "RowsColumns$Name" "high" "I" ∈ lw_tbl := (mt1 _ (List.mem_of_getElem? (i := 218) rfl))
theorem fl_X2_43 : Cond.fieldLink RX2 43 "RowsColumns$Name" "wide" "I" ∈ lw_tbl := (mt1 _ (List.mem_of_getElem? (i := 219) rfl))
theorem fl_X2_34 : Cond.fieldLink RX2 34 "RowsColumns$Name" "form" "J" ∈ lw_tbl := (mt1 _ (List.mem_of_getElem? (i := 220) rfl))
theorem fl_X8_276 : Cond.fieldLink RX8 276 "RowsColumns$Name" "form" "J" ∈ lw_tbl := (mt1 _ (List.mem_of_getElem? (i := 221) rfl))
theorem fl_X2_39 : Cond.fieldLink RX2 39 "RowsColumns$Name" "turning" "I" ∈ lw_tbl := (mt1 _ (List.mem_of_getElem? (i := 222) rfl))
theorem fl_X8_279 : Cond.fieldLink RX8 279 "RowsColumns$Name" "turning" "I" ∈ lw_tbl := (mt1 _ (List.mem_of_getElem? (i := 223) rfl))
theorem fl_X8_14 : Cond.fieldLink RX8 14 "RowsColumns" "cloth" "LRowsColumns$Cloth;" ∈ lw_tbl := (mt1 _ (List.mem_of_getElem? (i := 233) rfl))
theorem fl_X8_18 : Cond.fieldLink RX8 18 "RowsColumns" "pattern" "LRowsColumns$Cloth;" ∈ lw_tbl := (mt1 _ (List.mem_of_getElem? (i := 234) rfl))
theorem fl_X8_21 : Cond.fieldLink RX8 21 "RowsColumns" "firstImage" "LRowsColumns$Cloth;" ∈ lw_tbl := (mt1 _ (List.mem_of_getElem? (i := 235) rfl))
theorem fl_X8_24 : Cond.fieldLink RX8 24 "RowsColumns" "secondImage" "LRowsColumns$Cloth;" ∈ lw_tbl := (mt1 _ (List.mem_of_getElem? (i := 236) rfl))
theorem fl_X8_27 : Cond.fieldLink RX8 27 "RowsColumns" "scratch" "LRowsColumns$Cloth;" ∈ lw_tbl := (mt1 _ (List.mem_of_getElem? (i := 237) rfl))
theorem fl_X8_33 : Cond.fieldLink RX8 33 "RowsColumns" "days" "LRowsColumns$Days;" ∈ lw_tbl := (mt1 _ (List.mem_of_getElem? (i := 238) rfl))
theorem fl_X8_40 : Cond.fieldLink RX8 40 "RowsColumns" "tape" "LRowsColumns$Tape;" ∈ lw_tbl := (mt1 _ (List.mem_of_getElem? (i := 239) rfl))
theorem fl_X8_49 : Cond.fieldLink RX8 49 "RowsColumns" "teller" "LRowsColumns$Teller;" ∈ lw_tbl := (mt2 _ (List.mem_of_getElem? (i := 0) rfl))
theorem fl_X8_56 : Cond.fieldLink RX8 56 "RowsColumns" "sheets" "LRowsColumns$Sheets;" ∈ lw_tbl := (mt2 _ (List.mem_of_getElem? (i := 1) rfl))
theorem fl_X8_63 : Cond.fieldLink RX8 63 "RowsColumns" "way" "LRowsColumns$Way;" ∈ lw_tbl := (mt2 _ (List.mem_of_getElem? (i := 2) rfl))
theorem fl_X8_70 : Cond.fieldLink RX8 70 "RowsColumns" "ownName" "LRowsColumns$Name;" ∈ lw_tbl := (mt2 _ (List.mem_of_getElem? (i := 3) rfl))
theorem fl_X8_74 : Cond.fieldLink RX8 74 "RowsColumns" "otherName" "LRowsColumns$Name;" ∈ lw_tbl := (mt2 _ (List.mem_of_getElem? (i := 4) rfl))
theorem fl_X8_77 : Cond.fieldLink RX8 77 "RowsColumns" "independent" "[J" ∈ lw_tbl := (mt2 _ (List.mem_of_getElem? (i := 5) rfl))
theorem fl_X8_96 : Cond.fieldLink RX8 96 "RowsColumns" "latestFault" "I" ∈ lw_tbl := (mt2 _ (List.mem_of_getElem? (i := 6) rfl))
theorem fl_X8_319 : Cond.fieldLink RX8 319 "RowsColumns" "latestTorn" "I" ∈ lw_tbl := (mt2 _ (List.mem_of_getElem? (i := 7) rfl))
theorem ml_L_15 : Cond.methodLink RL 15 yX8_feed ∈ lw_tbl := (mt2 _ (List.mem_of_getElem? (i := 39) rfl))
theorem ml_X8_81 : Cond.methodLink RX8 81 yX5_add ∈ lw_tbl := (mt2 _ (List.mem_of_getElem? (i := 43) rfl))
theorem ml_L_20 : Cond.methodLink RL 20 yX8_end ∈ lw_tbl := (mt2 _ (List.mem_of_getElem? (i := 47) rfl))
theorem ml_L_25 : Cond.methodLink RL 25 yX8_text ∈ lw_tbl := (mt2 _ (List.mem_of_getElem? (i := 51) rfl))
theorem ml_X8_89 : Cond.methodLink RX8 89 yX6_takeText ∈ lw_tbl := (mt2 _ (List.mem_of_getElem? (i := 55) rfl))
theorem ml_X6_34 : Cond.methodLink RX6 34 yX0_forget ∈ lw_tbl := (mt2 _ (List.mem_of_getElem? (i := 59) rfl))
theorem ml_X6_37 : Cond.methodLink RX6 37 yX1_clear ∈ lw_tbl := (mt2 _ (List.mem_of_getElem? (i := 63) rfl))
theorem ml_X6_52 : Cond.methodLink RX6 52 yX6_takeLine ∈ lw_tbl := (mt2 _ (List.mem_of_getElem? (i := 67) rfl))
theorem ml_X6_62 : Cond.methodLink RX6 62 yX6_step ∈ lw_tbl := (mt2 _ (List.mem_of_getElem? (i := 71) rfl))
theorem ml_X6_105 : Cond.methodLink RX6 105 yX5_byteAt ∈ lw_tbl := (mt2 _ (List.mem_of_getElem? (i := 75) rfl))
theorem ml_X6_167 : Cond.methodLink RX6 167 yX6_isLetter ∈ lw_tbl := (mt2 _ (List.mem_of_getElem? (i := 79) rfl))
theorem ml_X6_170 : Cond.methodLink RX6 170 yX6_isFigure ∈ lw_tbl := (mt2 _ (List.mem_of_getElem? (i := 82) rfl))
theorem ml_X6_173 : Cond.methodLink RX6 173 yX6_stepNumber ∈ lw_tbl := (mt2 _ (List.mem_of_getElem? (i := 85) rfl))
theorem ml_X6_85 : Cond.methodLink RX6 85 yX6_refuse ∈ lw_tbl := (mt2 _ (List.mem_of_getElem? (i := 89) rfl))
theorem sr_X6_68 : Cond.stringRef RX6 68 "cloth" ∈ lw_tbl := (mt2 _ (List.mem_of_getElem? (i := 93) rfl))
theorem ml_X6_70 : Cond.methodLink RX6 70 yX6_isNamed ∈ lw_tbl := (mt2 _ (List.mem_of_getElem? (i := 94) rfl))
theorem ml_X6_156 : Cond.methodLink RX6 156 yJ0_length_8abf5 ∈ lw_tbl := (mt2 _ (List.mem_of_getElem? (i := 98) rfl))
theorem ml_J0_335 : Cond.methodLink RJ0 335 yJ0_coder_7d493 ∈ lw_tbl := (mt2 _ (List.mem_of_getElem? (i := 102) rfl))
theorem fl_J0_38 : Cond.fieldLink RJ0 38 "java/lang/String" "COMPACT_STRINGS" "Z" ∈ lw_tbl := (mt2 _ (List.mem_of_getElem? (i := 106) rfl))
theorem ls_COMPACT_STRINGS : Cond.laysStatic "java/lang/String" "COMPACT_STRINGS" "Z" ∈ lw_tbl := (mt2 _ (List.mem_of_getElem? (i := 107) rfl))
theorem ml_X6_161 : Cond.methodLink RX6 161 yJ0_charAt_5068e ∈ lw_tbl := (mt2 _ (List.mem_of_getElem? (i := 108) rfl))
theorem ml_J0_492 : Cond.methodLink RJ0 492 yJ0_isLatin1_aae02 ∈ lw_tbl := (mt2 _ (List.mem_of_getElem? (i := 112) rfl))
theorem ml_J0_495 : Cond.methodLink RJ0 495 yJ1_charAt_3b067 ∈ lw_tbl := (mt2 _ (List.mem_of_getElem? (i := 116) rfl))
theorem ml_J1_9 : Cond.methodLink RJ1 9 yJ0_checkIndex_df160 ∈ lw_tbl := (mt2 _ (List.mem_of_getElem? (i := 119) rfl))
theorem fl_J0_1053 : Cond.fieldLink RJ0 1053 "jdk/internal/util/Preconditions" "SIOOBE_FORMATTER" "Ljava/util/function/BiFunction;" ∈ lw_tbl := (mt2 _ (List.mem_of_getElem? (i := 122) rfl))
theorem ls_SIOOBE_FORMATTER : Cond.laysStatic "jdk/internal/util/Preconditions" "SIOOBE_FORMATTER" "Ljava/util/function/BiFunction;" ∈ lw_tbl := (mt2 _ (List.mem_of_getElem? (i := 123) rfl))
theorem ml_J0_1059 : Cond.methodLink RJ0 1059 yJ3_checkIndex_8e157 ∈ lw_tbl := (mt2 _ (List.mem_of_getElem? (i := 124) rfl))
theorem ml_J0_498 : Cond.methodLink RJ0 498 yJ2_charAt_3b067 ∈ lw_tbl := (mt2 _ (List.mem_of_getElem? (i := 127) rfl))
theorem ml_J2_67 : Cond.methodLink RJ2 67 yJ2_checkIndex_2214a ∈ lw_tbl := (mt2 _ (List.mem_of_getElem? (i := 130) rfl))
theorem ml_J2_48 : Cond.methodLink RJ2 48 yJ2_length_9d52b ∈ lw_tbl := (mt2 _ (List.mem_of_getElem? (i := 133) rfl))
theorem ml_J2_414 : Cond.methodLink RJ2 414 yJ0_checkIndex_df160 ∈ lw_tbl := (mt2 _ (List.mem_of_getElem? (i := 136) rfl))
theorem ml_J2_71 : Cond.methodLink RJ2 71 yJ2_getChar_3b067 ∈ lw_tbl := (mt2 _ (List.mem_of_getElem? (i := 137) rfl))
theorem fl_J2_44 : Cond.fieldLink RJ2 44 "java/lang/StringUTF16" "$assertionsDisabled" "Z" ∈ lw_tbl := (mt2 _ (List.mem_of_getElem? (i := 140) rfl))
theorem fl_J2_59 : Cond.fieldLink RJ2 59 "java/lang/StringUTF16" "HI_BYTE_SHIFT" "I" ∈ lw_tbl := (mt2 _ (List.mem_of_getElem? (i := 142) rfl))
theorem fl_J2_63 : Cond.fieldLink RJ2 63 "java/lang/StringUTF16" "LO_BYTE_SHIFT" "I" ∈ lw_tbl := (mt2 _ (List.mem_of_getElem? (i := 144) rfl))
theorem ml_X6_74 : Cond.methodLink RX6 74 yX6_takeRows ∈ lw_tbl := (mt2 _ (List.mem_of_getElem? (i := 146) rfl))
theorem ml_X6_96 : Cond.methodLink RX6 96 yX6_takeRow ∈ lw_tbl := (mt2 _ (List.mem_of_getElem? (i := 150) rfl))
theorem ml_X6_99 : Cond.methodLink RX6 99 yX6_isRow ∈ lw_tbl := (mt2 _ (List.mem_of_getElem? (i := 154) rfl))
theorem sr_X6_78 : Cond.stringRef RX6 78 "pattern" ∈ lw_tbl := (mt2 _ (List.mem_of_getElem? (i := 158) rfl))
theorem sr_X6_80 : Cond.stringRef RX6 80 "day" ∈ lw_tbl := (mt2 _ (List.mem_of_getElem? (i := 159) rfl))
theorem ml_X6_82 : Cond.methodLink RX6 82 yX6_takeDay ∈ lw_tbl := (mt2 _ (List.mem_of_getElem? (i := 160) rfl))
theorem ml_X6_116 : Cond.methodLink RX6 116 yX1_begin ∈ lw_tbl := (mt2 _ (List.mem_of_getElem? (i := 164) rfl))
theorem ml_X6_119 : Cond.methodLink RX6 119 yX6_kindNamed ∈ lw_tbl := (mt2 _ (List.mem_of_getElem? (i := 168) rfl))
theorem sr_X6_150 : Cond.stringRef RX6 150 "row" ∈ lw_tbl := (mt2 _ (List.mem_of_getElem? (i := 172) rfl))
theorem sr_X6_152 : Cond.stringRef RX6 152 "column" ∈ lw_tbl := (mt2 _ (List.mem_of_getElem? (i := 173) rfl))
theorem sr_X6_154 : Cond.stringRef RX6 154 "slant" ∈ lw_tbl := (mt2 _ (List.mem_of_getElem? (i := 174) rfl))
theorem ml_X6_123 : Cond.methodLink RX6 123 yX6_takeNumber ∈ lw_tbl := (mt2 _ (List.mem_of_getElem? (i := 175) rfl))
theorem ml_X6_129 : Cond.methodLink RX6 129 yX1_add ∈ lw_tbl := (mt2 _ (List.mem_of_getElem? (i := 179) rfl))
theorem ml_X1_20 : Cond.methodLink RX1 20 yX1_actsOf ∈ lw_tbl := (mt2 _ (List.mem_of_getElem? (i := 183) rfl))
theorem ml_X6_56 : Cond.methodLink RX6 56 yX6_judgeWhole ∈ lw_tbl := (mt2 _ (List.mem_of_getElem? (i := 187) rfl))
theorem ml_X6_133 : Cond.methodLink RX6 133 yX0_sameSize ∈ lw_tbl := (mt2 _ (List.mem_of_getElem? (i := 191) rfl))
theorem ml_X6_136 : Cond.methodLink RX6 136 yX1_actsOf ∈ lw_tbl := (mt2 _ (List.mem_of_getElem? (i := 195) rfl))
theorem ml_X6_139 : Cond.methodLink RX6 139 yX1_kindOf ∈ lw_tbl := (mt2 _ (List.mem_of_getElem? (i := 196) rfl))
theorem ml_X1_24 : Cond.methodLink RX1 24 yX1_codeOf ∈ lw_tbl := (mt2 _ (List.mem_of_getElem? (i := 200) rfl))
theorem ml_X6_143 : Cond.methodLink RX6 143 yX1_numberOf ∈ lw_tbl := (mt2 _ (List.mem_of_getElem? (i := 204) rfl))
theorem ml_X6_146 : Cond.methodLink RX6 146 yX0_hasLine ∈ lw_tbl := (mt2 _ (List.mem_of_getElem? (i := 208) rfl))
theorem ml_X0_50 : Cond.methodLink RX0 50 yX0_linesOf ∈ lw_tbl := (mt2 _ (List.mem_of_getElem? (i := 212) rfl))
theorem ml_X8_102 : Cond.methodLink RX8 102 yX0_become ∈ lw_tbl := (mt2 _ (List.mem_of_getElem? (i := 216) rfl))
theorem ml_X8_114 : Cond.methodLink RX8 114 yX1_become ∈ lw_tbl := (mt2 _ (List.mem_of_getElem? (i := 220) rfl))
theorem ml_L_30 : Cond.methodLink RL 30 yX8_fault ∈ lw_tbl := (mt2 _ (List.mem_of_getElem? (i := 224) rfl))
theorem ml_L_34 : Cond.methodLink RL 34 yX8_rule ∈ lw_tbl := (mt2 _ (List.mem_of_getElem? (i := 228) rfl))
theorem ml_X8_126 : Cond.methodLink RX8 126 yX0_linesOf ∈ lw_tbl := (mt2 _ (List.mem_of_getElem? (i := 232) rfl))
theorem ml_L_38 : Cond.methodLink RL 38 yX8_day ∈ lw_tbl := (mt2 _ (List.mem_of_getElem? (i := 233) rfl))
theorem ml_X8_130 : Cond.methodLink RX8 130 yX1_actsOf ∈ lw_tbl := (mt2 _ (List.mem_of_getElem? (i := 237) rfl))
theorem ml_X8_133 : Cond.methodLink RX8 133 yX1_codeOf ∈ lw_tbl := (mt2 _ (List.mem_of_getElem? (i := 238) rfl))
theorem ml_L_43 : Cond.methodLink RL 43 yX8_cloth ∈ lw_tbl := (mt2 _ (List.mem_of_getElem? (i := 239) rfl))
theorem ml_L_48 : Cond.methodLink RL 48 yX8_square ∈ lw_tbl := (mt3 _ (List.mem_of_getElem? (i := 3) rfl))
theorem ml_X8_141 : Cond.methodLink RX8 141 yX0_hasSquare ∈ lw_tbl := (mt3 _ (List.mem_of_getElem? (i := 7) rfl))
theorem ml_X8_145 : Cond.methodLink RX8 145 yX0_squareAt ∈ lw_tbl := (mt3 _ (List.mem_of_getElem? (i := 11) rfl))
theorem ml_L_52 : Cond.methodLink RL 52 yX8_paint ∈ lw_tbl := (mt3 _ (List.mem_of_getElem? (i := 15) rfl))
theorem ml_X8_148 : Cond.methodLink RX8 148 yX0_colour ∈ lw_tbl := (mt3 _ (List.mem_of_getElem? (i := 19) rfl))
theorem ml_X0_44 : Cond.methodLink RX0 44 yX0_squareAt ∈ lw_tbl := (mt3 _ (List.mem_of_getElem? (i := 23) rfl))
theorem kl_X0_48 : Cond.constantLong RX0 48 (-1) ∈ lw_tbl := (mt3 _ (List.mem_of_getElem? (i := 24) rfl))
theorem ml_L_57 : Cond.methodLink RL 57 yX8_wish ∈ lw_tbl := (mt3 _ (List.mem_of_getElem? (i := 25) rfl))
theorem ml_L_61 : Cond.methodLink RL 61 yX8_act ∈ lw_tbl := (mt3 _ (List.mem_of_getElem? (i := 29) rfl))
theorem ml_X8_152 : Cond.methodLink RX8 152 yX0_hasLine ∈ lw_tbl := (mt3 _ (List.mem_of_getElem? (i := 33) rfl))
theorem ml_X8_155 : Cond.methodLink RX8 155 yX0_squaresOf ∈ lw_tbl := (mt3 _ (List.mem_of_getElem? (i := 34) rfl))
theorem ml_X0_54 : Cond.methodLink RX0 54 yX0_hasLine ∈ lw_tbl := (mt3 _ (List.mem_of_getElem? (i := 38) rfl))
theorem ml_X0_36 : Cond.methodLink RX0 36 yX0_everyColumn ∈ lw_tbl := (mt3 _ (List.mem_of_getElem? (i := 39) rfl))
theorem ml_X0_40 : Cond.methodLink RX0 40 yX0_columnSquares ∈ lw_tbl := (mt3 _ (List.mem_of_getElem? (i := 43) rfl))
theorem kl_X0_61 : Cond.constantLong RX0 61 (72340172838076673) ∈ lw_tbl := (mt3 _ (List.mem_of_getElem? (i := 47) rfl))
theorem ml_X0_58 : Cond.methodLink RX0 58 yX0_slantSquares ∈ lw_tbl := (mt3 _ (List.mem_of_getElem? (i := 48) rfl))
theorem ml_X0_63 : Cond.methodLink RX0 63 yX0_hasSquare ∈ lw_tbl := (mt3 _ (List.mem_of_getElem? (i := 52) rfl))
theorem ml_X8_159 : Cond.methodLink RX8 159 yX0_darkSquares ∈ lw_tbl := (mt3 _ (List.mem_of_getElem? (i := 53) rfl))
theorem ml_X0_30 : Cond.methodLink RX0 30 yJ13_bitCount_95d88 ∈ lw_tbl := (mt3 _ (List.mem_of_getElem? (i := 57) rfl))
theorem kl_J13_314 : Cond.constantLong RJ13 314 (6148914691236517205) ∈ lw_tbl := (mt3 _ (List.mem_of_getElem? (i := 60) rfl))
theorem kl_J13_316 : Cond.constantLong RJ13 316 (3689348814741910323) ∈ lw_tbl := (mt3 _ (List.mem_of_getElem? (i := 61) rfl))
theorem kl_J13_318 : Cond.constantLong RJ13 318 (1085102592571150095) ∈ lw_tbl := (mt3 _ (List.mem_of_getElem? (i := 62) rfl))
theorem ml_L_65 : Cond.methodLink RL 65 yX8_turn ∈ lw_tbl := (mt3 _ (List.mem_of_getElem? (i := 63) rfl))
theorem ml_X8_162 : Cond.methodLink RX8 162 yX0_everyRow ∈ lw_tbl := (mt3 _ (List.mem_of_getElem? (i := 67) rfl))
theorem ml_X8_165 : Cond.methodLink RX8 165 yX0_everyColumn ∈ lw_tbl := (mt3 _ (List.mem_of_getElem? (i := 71) rfl))
theorem ml_X8_168 : Cond.methodLink RX8 168 yX0_squaresTurned ∈ lw_tbl := (mt3 _ (List.mem_of_getElem? (i := 72) rfl))
theorem ml_X0_66 : Cond.methodLink RX0 66 yX0_squaresOf ∈ lw_tbl := (mt3 _ (List.mem_of_getElem? (i := 76) rfl))
theorem ml_L_69 : Cond.methodLink RL 69 yX8_go ∈ lw_tbl := (mt3 _ (List.mem_of_getElem? (i := 77) rfl))
theorem ml_X8_171 : Cond.methodLink RX8 171 yX1_kindOf ∈ lw_tbl := (mt3 _ (List.mem_of_getElem? (i := 81) rfl))
theorem ml_X8_174 : Cond.methodLink RX8 174 yX1_numberOf ∈ lw_tbl := (mt3 _ (List.mem_of_getElem? (i := 82) rfl))
theorem ml_L_73 : Cond.methodLink RL 73 yX8_form ∈ lw_tbl := (mt3 _ (List.mem_of_getElem? (i := 83) rfl))
theorem ml_X8_177 : Cond.methodLink RX8 177 yX0_formOf ∈ lw_tbl := (mt3 _ (List.mem_of_getElem? (i := 87) rfl))
theorem ml_X0_70 : Cond.methodLink RX0 70 yX0_rowsUnlikeFirst ∈ lw_tbl := (mt3 _ (List.mem_of_getElem? (i := 91) rfl))
theorem ml_X0_73 : Cond.methodLink RX0 73 yX0_columnsOfFirstRow ∈ lw_tbl := (mt3 _ (List.mem_of_getElem? (i := 95) rfl))
theorem ml_X0_76 : Cond.methodLink RX0 76 yX0_squaresTurned ∈ lw_tbl := (mt3 _ (List.mem_of_getElem? (i := 99) rfl))
theorem kl_X8_181 : Cond.constantLong RX8 181 (-1) ∈ lw_tbl := (mt3 _ (List.mem_of_getElem? (i := 100) rfl))
theorem ml_L_77 : Cond.methodLink RL 77 yX8_forms ∈ lw_tbl := (mt3 _ (List.mem_of_getElem? (i := 101) rfl))
theorem ml_L_82 : Cond.methodLink RL 82 yX8_alike ∈ lw_tbl := (mt3 _ (List.mem_of_getElem? (i := 105) rfl))
theorem ml_X8_183 : Cond.methodLink RX8 183 yX8_imageOf ∈ lw_tbl := (mt3 _ (List.mem_of_getElem? (i := 109) rfl))
theorem ml_X8_187 : Cond.methodLink RX8 187 yX0_sameSize ∈ lw_tbl := (mt3 _ (List.mem_of_getElem? (i := 113) rfl))
theorem ml_L_86 : Cond.methodLink RL 86 yX8_plan ∈ lw_tbl := (mt3 _ (List.mem_of_getElem? (i := 114) rfl))
theorem ml_X8_191 : Cond.methodLink RX8 191 yX7_findPlan ∈ lw_tbl := (mt3 _ (List.mem_of_getElem? (i := 118) rfl))
theorem ml_X7_34 : Cond.methodLink RX7 34 yX0_formOf ∈ lw_tbl := (mt3 _ (List.mem_of_getElem? (i := 122) rfl))
theorem ml_X7_44 : Cond.methodLink RX7 44 yX0_rowsUnlikeFirst ∈ lw_tbl := (mt3 _ (List.mem_of_getElem? (i := 123) rfl))
theorem ml_X7_48 : Cond.methodLink RX7 48 yX0_columnsOfFirstRow ∈ lw_tbl := (mt3 _ (List.mem_of_getElem? (i := 124) rfl))
theorem ml_X7_51 : Cond.methodLink RX7 51 yX7_take ∈ lw_tbl := (mt3 _ (List.mem_of_getElem? (i := 125) rfl))
theorem ml_X7_55 : Cond.methodLink RX7 55 yX0_everyRow ∈ lw_tbl := (mt3 _ (List.mem_of_getElem? (i := 129) rfl))
theorem ml_X7_59 : Cond.methodLink RX7 59 yX7_acts ∈ lw_tbl := (mt3 _ (List.mem_of_getElem? (i := 130) rfl))
theorem ml_X7_22 : Cond.methodLink RX7 22 yJ6_bitCount_0f7a4 ∈ lw_tbl := (mt3 _ (List.mem_of_getElem? (i := 134) rfl))
theorem kl_J6_265 : Cond.constant RJ6 265 (1431655765) ∈ lw_tbl := (mt3 _ (List.mem_of_getElem? (i := 137) rfl))
theorem kl_J6_266 : Cond.constant RJ6 266 (858993459) ∈ lw_tbl := (mt3 _ (List.mem_of_getElem? (i := 138) rfl))
theorem kl_J6_267 : Cond.constant RJ6 267 (252645135) ∈ lw_tbl := (mt3 _ (List.mem_of_getElem? (i := 139) rfl))
theorem ml_X7_68 : Cond.methodLink RX7 68 yX0_everyColumn ∈ lw_tbl := (mt3 _ (List.mem_of_getElem? (i := 140) rfl))
theorem ml_X8_201 : Cond.methodLink RX8 201 yJ6_bitCount_0f7a4 ∈ lw_tbl := (mt3 _ (List.mem_of_getElem? (i := 141) rfl))
theorem ml_X8_209 : Cond.methodLink RX8 209 yJ9_max_7cf53 ∈ lw_tbl := (mt3 _ (List.mem_of_getElem? (i := 142) rfl))
theorem ml_X8_214 : Cond.methodLink RX8 214 yX7_acts ∈ lw_tbl := (mt3 _ (List.mem_of_getElem? (i := 145) rfl))
theorem ml_X8_217 : Cond.methodLink RX8 217 yX8_toldOf ∈ lw_tbl := (mt3 _ (List.mem_of_getElem? (i := 146) rfl))
theorem ml_L_90 : Cond.methodLink RL 90 yX8_nearest ∈ lw_tbl := (mt3 _ (List.mem_of_getElem? (i := 150) rfl))
theorem ml_X8_220 : Cond.methodLink RX8 220 yX7_findNearest ∈ lw_tbl := (mt3 _ (List.mem_of_getElem? (i := 154) rfl))
theorem ml_X7_71 : Cond.methodLink RX7 71 yX0_squaresTurned ∈ lw_tbl := (mt3 _ (List.mem_of_getElem? (i := 158) rfl))
theorem ml_X7_75 : Cond.methodLink RX7 75 yX7_tryRows ∈ lw_tbl := (mt3 _ (List.mem_of_getElem? (i := 159) rfl))
theorem ml_X7_79 : Cond.methodLink RX7 79 yX0_squaresOf ∈ lw_tbl := (mt3 _ (List.mem_of_getElem? (i := 163) rfl))
theorem ml_X7_82 : Cond.methodLink RX7 82 yJ13_bitCount_95d88 ∈ lw_tbl := (mt3 _ (List.mem_of_getElem? (i := 164) rfl))
theorem ml_X7_86 : Cond.methodLink RX7 86 yJ9_min_7cf53 ∈ lw_tbl := (mt3 _ (List.mem_of_getElem? (i := 165) rfl))
theorem ml_L_94 : Cond.methodLink RL 94 yX8_lightest ∈ lw_tbl := (mt3 _ (List.mem_of_getElem? (i := 168) rfl))
theorem ml_L_98 : Cond.methodLink RL 98 yX8_blind ∈ lw_tbl := (mt3 _ (List.mem_of_getElem? (i := 172) rfl))
theorem ml_X8_226 : Cond.methodLink RX8 226 yX7_goBlind ∈ lw_tbl := (mt3 _ (List.mem_of_getElem? (i := 176) rfl))
theorem ml_X7_98 : Cond.methodLink RX7 98 yX7_mostUnlike ∈ lw_tbl := (mt3 _ (List.mem_of_getElem? (i := 180) rfl))
theorem ml_X7_102 : Cond.methodLink RX7 102 yX0_linesOf ∈ lw_tbl := (mt3 _ (List.mem_of_getElem? (i := 183) rfl))
theorem ml_L_102 : Cond.methodLink RL 102 yX8_slanted ∈ lw_tbl := (mt3 _ (List.mem_of_getElem? (i := 184) rfl))
theorem ml_X8_231 : Cond.methodLink RX8 231 yX7_findSlanted ∈ lw_tbl := (mt3 _ (List.mem_of_getElem? (i := 188) rfl))
theorem ml_X7_105 : Cond.methodLink RX7 105 yX7_trySlants ∈ lw_tbl := (mt3 _ (List.mem_of_getElem? (i := 192) rfl))
theorem ml_X7_109 : Cond.methodLink RX7 109 yX7_slantsThatMake ∈ lw_tbl := (mt3 _ (List.mem_of_getElem? (i := 196) rfl))
theorem ml_L_106 : Cond.methodLink RL 106 yX8_power ∈ lw_tbl := (mt3 _ (List.mem_of_getElem? (i := 200) rfl))
theorem ml_X8_234 : Cond.methodLink RX8 234 yX8_independentLines ∈ lw_tbl := (mt3 _ (List.mem_of_getElem? (i := 204) rfl))
theorem ml_L_110 : Cond.methodLink RL 110 yX8_duel ∈ lw_tbl := (mt3 _ (List.mem_of_getElem? (i := 208) rfl))
theorem ml_X8_237 : Cond.methodLink RX8 237 yX8_endOfDuel ∈ lw_tbl := (mt3 _ (List.mem_of_getElem? (i := 212) rfl))
theorem ml_X8_322 : Cond.methodLink RX8 322 yJ13_bitCount_95d88 ∈ lw_tbl := (mt3 _ (List.mem_of_getElem? (i := 215) rfl))
theorem ml_X8_241 : Cond.methodLink RX8 241 yX8_isBetter ∈ lw_tbl := (mt3 _ (List.mem_of_getElem? (i := 216) rfl))
theorem ml_L_115 : Cond.methodLink RL 115 yX8_turned ∈ lw_tbl := (mt3 _ (List.mem_of_getElem? (i := 219) rfl))
theorem ml_L_119 : Cond.methodLink RL 119 yX8_spoilt ∈ lw_tbl := (mt3 _ (List.mem_of_getElem? (i := 223) rfl))
theorem ml_X8_245 : Cond.methodLink RX8 245 yX7_findSpoilt ∈ lw_tbl := (mt3 _ (List.mem_of_getElem? (i := 227) rfl))
theorem ml_X7_118 : Cond.methodLink RX7 118 yX0_hasSquare ∈ lw_tbl := (mt3 _ (List.mem_of_getElem? (i := 231) rfl))
theorem ml_X8_248 : Cond.methodLink RX8 248 yX8_spoiltTold ∈ lw_tbl := (mt3 _ (List.mem_of_getElem? (i := 232) rfl))
theorem ml_L_123 : Cond.methodLink RL 123 yX8_both ∈ lw_tbl := (mt3 _ (List.mem_of_getElem? (i := 236) rfl))
theorem ml_X8_251 : Cond.methodLink RX8 251 yX7_findBothSpoilt ∈ lw_tbl := (mt4 _ (List.mem_of_getElem? (i := 0) rfl))
theorem ml_X7_122 : Cond.methodLink RX7 122 yX7_pairWith ∈ lw_tbl := (mt4 _ (List.mem_of_getElem? (i := 4) rfl))
theorem ml_L_127 : Cond.methodLink RL 127 yX8_rotate ∈ lw_tbl := (mt4 _ (List.mem_of_getElem? (i := 8) rfl))
theorem ml_X8_254 : Cond.methodLink RX8 254 yX0_rotateBy ∈ lw_tbl := (mt4 _ (List.mem_of_getElem? (i := 12) rfl))
theorem ml_X0_79 : Cond.methodLink RX0 79 yX0_mirror ∈ lw_tbl := (mt4 _ (List.mem_of_getElem? (i := 16) rfl))
theorem ml_X0_82 : Cond.methodLink RX0 82 yX0_quarterRight ∈ lw_tbl := (mt4 _ (List.mem_of_getElem? (i := 20) rfl))
theorem ml_X8_258 : Cond.methodLink RX8 258 yX1_clear ∈ lw_tbl := (mt4 _ (List.mem_of_getElem? (i := 24) rfl))
theorem ml_L_131 : Cond.methodLink RL 131 yX8_cut ∈ lw_tbl := (mt4 _ (List.mem_of_getElem? (i := 25) rfl))
theorem ml_X8_261 : Cond.methodLink RX8 261 yX8_isPart ∈ lw_tbl := (mt4 _ (List.mem_of_getElem? (i := 29) rfl))
theorem ml_X8_265 : Cond.methodLink RX8 265 yX0_resize ∈ lw_tbl := (mt4 _ (List.mem_of_getElem? (i := 32) rfl))
theorem ml_X0_26 : Cond.methodLink RX0 26 yX0_allSquares ∈ lw_tbl := (mt4 _ (List.mem_of_getElem? (i := 36) rfl))
theorem ml_X8_269 : Cond.methodLink RX8 269 yX8_forgetPlans ∈ lw_tbl := (mt4 _ (List.mem_of_getElem? (i := 40) rfl))
theorem ml_L_136 : Cond.methodLink RL 136 yX8_sew ∈ lw_tbl := (mt4 _ (List.mem_of_getElem? (i := 44) rfl))
theorem ml_L_141 : Cond.methodLink RL 141 yX8_name ∈ lw_tbl := (mt4 _ (List.mem_of_getElem? (i := 48) rfl))
theorem ml_X8_272 : Cond.methodLink RX8 272 yX2_find ∈ lw_tbl := (mt4 _ (List.mem_of_getElem? (i := 52) rfl))
theorem ml_X2_9 : Cond.methodLink RX2 9 yX0_become ∈ lw_tbl := (mt4 _ (List.mem_of_getElem? (i := 56) rfl))
theorem ml_X2_15 : Cond.methodLink RX2 15 yX0_rotateBy ∈ lw_tbl := (mt4 _ (List.mem_of_getElem? (i := 57) rfl))
theorem ml_X2_23 : Cond.methodLink RX2 23 yX0_formOf ∈ lw_tbl := (mt4 _ (List.mem_of_getElem? (i := 58) rfl))
theorem ml_L_145 : Cond.methodLink RL 145 yX8_cousin ∈ lw_tbl := (mt4 _ (List.mem_of_getElem? (i := 59) rfl))
theorem ml_X8_282 : Cond.methodLink RX8 282 yX2_sameAs ∈ lw_tbl := (mt4 _ (List.mem_of_getElem? (i := 63) rfl))
theorem ml_L_149 : Cond.methodLink RL 149 yX8_keep ∈ lw_tbl := (mt4 _ (List.mem_of_getElem? (i := 67) rfl))
theorem ml_L_153 : Cond.methodLink RL 153 yX8_back ∈ lw_tbl := (mt4 _ (List.mem_of_getElem? (i := 71) rfl))
theorem ml_L_157 : Cond.methodLink RL 157 yX8_sheet ∈ lw_tbl := (mt4 _ (List.mem_of_getElem? (i := 75) rfl))
theorem ml_X8_286 : Cond.methodLink RX8 286 yX4_at ∈ lw_tbl := (mt4 _ (List.mem_of_getElem? (i := 79) rfl))
theorem ml_X8_290 : Cond.methodLink RX8 290 yX8_isLane ∈ lw_tbl := (mt4 _ (List.mem_of_getElem? (i := 83) rfl))
theorem ml_X8_296 : Cond.methodLink RX8 296 yX3_renew ∈ lw_tbl := (mt4 _ (List.mem_of_getElem? (i := 86) rfl))
theorem ml_L_162 : Cond.methodLink RL 162 yX8_lay ∈ lw_tbl := (mt4 _ (List.mem_of_getElem? (i := 90) rfl))
theorem ml_X8_300 : Cond.methodLink RX8 300 yX3_isNothing ∈ lw_tbl := (mt4 _ (List.mem_of_getElem? (i := 94) rfl))
theorem ml_X8_304 : Cond.methodLink RX8 304 yX3_put ∈ lw_tbl := (mt4 _ (List.mem_of_getElem? (i := 98) rfl))
theorem ml_L_166 : Cond.methodLink RL 166 yX8_read ∈ lw_tbl := (mt4 _ (List.mem_of_getElem? (i := 102) rfl))
theorem ml_X8_307 : Cond.methodLink RX8 307 yX3_faultOfLane ∈ lw_tbl := (mt4 _ (List.mem_of_getElem? (i := 106) rfl))
theorem ml_X3_22 : Cond.methodLink RX3 22 yX3_isNothing ∈ lw_tbl := (mt4 _ (List.mem_of_getElem? (i := 110) rfl))
theorem ml_X8_310 : Cond.methodLink RX8 310 yX3_pairsFrom ∈ lw_tbl := (mt4 _ (List.mem_of_getElem? (i := 111) rfl))
theorem ml_X8_313 : Cond.methodLink RX8 313 yJ9_min_7cf53 ∈ lw_tbl := (mt4 _ (List.mem_of_getElem? (i := 115) rfl))
theorem ml_X8_316 : Cond.methodLink RX8 316 yX3_cell ∈ lw_tbl := (mt4 _ (List.mem_of_getElem? (i := 116) rfl))
theorem ml_L_170 : Cond.methodLink RL 170 yX8_torn ∈ lw_tbl := (mt4 _ (List.mem_of_getElem? (i := 120) rfl))
theorem ml_L_174 : Cond.methodLink RL 174 yX8_count ∈ lw_tbl := (mt4 _ (List.mem_of_getElem? (i := 124) rfl))
theorem ml_X8_327 : Cond.methodLink RX8 327 yX4_cellsOf ∈ lw_tbl := (mt4 _ (List.mem_of_getElem? (i := 128) rfl))
theorem ml_X4_18 : Cond.methodLink RX4 18 yX4_at ∈ lw_tbl := (mt4 _ (List.mem_of_getElem? (i := 132) rfl))
theorem ml_X4_22 : Cond.methodLink RX4 22 yX3_isNothing ∈ lw_tbl := (mt4 _ (List.mem_of_getElem? (i := 133) rfl))
theorem cl_L_10 : Cond.classLink RL 10 RX9 ∈ lw_tbl := (mt4 _ (List.mem_of_getElem? (i := 134) rfl))
theorem is_X9 : Cond.instantiable RX9 47 ∈ lw_tbl := (mt4 _ (List.mem_of_getElem? (i := 135) rfl))
theorem ml_L_12 : Cond.methodLink RL 12 yX9_init ∈ lw_tbl := (mt4 _ (List.mem_of_getElem? (i := 136) rfl))
theorem ml_X9_1 : Cond.methodLink RX9 1 Lib.objectInit ∈ lw_tbl := (mt4 _ (List.mem_of_getElem? (i := 139) rfl))
theorem ml_X9_44 : Cond.methodLink RX9 44 yX9_firstDraft ∈ lw_tbl := (mt4 _ (List.mem_of_getElem? (i := 140) rfl))
theorem ml_X9_47 : Cond.methodLink RX9 47 yX9_keepDraft ∈ lw_tbl := (mt4 _ (List.mem_of_getElem? (i := 144) rfl))
theorem fl_X9_74 : Cond.fieldLink RX9 74 "RowsColumnsModel" "high" "I" ∈ lw_tbl := (mt4 _ (List.mem_of_getElem? (i := 148) rfl))
theorem fl_X9_77 : Cond.fieldLink RX9 77 "RowsColumnsModel" "wide" "I" ∈ lw_tbl := (mt4 _ (List.mem_of_getElem? (i := 149) rfl))
theorem fl_X9_80 : Cond.fieldLink RX9 80 "RowsColumnsModel" "cloth" "J" ∈ lw_tbl := (mt4 _ (List.mem_of_getElem? (i := 150) rfl))
theorem fl_X9_83 : Cond.fieldLink RX9 83 "RowsColumnsModel" "pattern" "J" ∈ lw_tbl := (mt4 _ (List.mem_of_getElem? (i := 151) rfl))
theorem fl_X9_86 : Cond.fieldLink RX9 86 "RowsColumnsModel" "hasPattern" "Z" ∈ lw_tbl := (mt4 _ (List.mem_of_getElem? (i := 152) rfl))
theorem fl_X9_89 : Cond.fieldLink RX9 89 "RowsColumnsModel" "days" "I" ∈ lw_tbl := (mt4 _ (List.mem_of_getElem? (i := 153) rfl))
theorem fl_X9_7 : Cond.fieldLink RX9 7 "RowsColumnsModel" "day" "[I" ∈ lw_tbl := (mt4 _ (List.mem_of_getElem? (i := 154) rfl))
theorem fl_X9_13 : Cond.fieldLink RX9 13 "RowsColumnsModel" "image" "[J" ∈ lw_tbl := (mt4 _ (List.mem_of_getElem? (i := 155) rfl))
theorem fl_X9_17 : Cond.fieldLink RX9 17 "RowsColumnsModel" "imageHigh" "[I" ∈ lw_tbl := (mt4 _ (List.mem_of_getElem? (i := 156) rfl))
theorem fl_X9_20 : Cond.fieldLink RX9 20 "RowsColumnsModel" "imageWide" "[I" ∈ lw_tbl := (mt4 _ (List.mem_of_getElem? (i := 157) rfl))
theorem fl_X9_50 : Cond.fieldLink RX9 50 "RowsColumnsModel" "dHigh" "I" ∈ lw_tbl := (mt4 _ (List.mem_of_getElem? (i := 158) rfl))
theorem fl_X9_54 : Cond.fieldLink RX9 54 "RowsColumnsModel" "dWide" "I" ∈ lw_tbl := (mt4 _ (List.mem_of_getElem? (i := 159) rfl))
theorem fl_X9_57 : Cond.fieldLink RX9 57 "RowsColumnsModel" "dCloth" "J" ∈ lw_tbl := (mt4 _ (List.mem_of_getElem? (i := 160) rfl))
theorem fl_X9_183 : Cond.fieldLink RX9 183 "RowsColumnsModel" "pHigh" "I" ∈ lw_tbl := (mt4 _ (List.mem_of_getElem? (i := 161) rfl))
theorem fl_X9_186 : Cond.fieldLink RX9 186 "RowsColumnsModel" "pWide" "I" ∈ lw_tbl := (mt4 _ (List.mem_of_getElem? (i := 162) rfl))
theorem fl_X9_61 : Cond.fieldLink RX9 61 "RowsColumnsModel" "dPattern" "J" ∈ lw_tbl := (mt4 _ (List.mem_of_getElem? (i := 163) rfl))
theorem fl_X9_64 : Cond.fieldLink RX9 64 "RowsColumnsModel" "hasCloth" "Z" ∈ lw_tbl := (mt4 _ (List.mem_of_getElem? (i := 164) rfl))
theorem fl_X9_68 : Cond.fieldLink RX9 68 "RowsColumnsModel" "dHasPattern" "Z" ∈ lw_tbl := (mt4 _ (List.mem_of_getElem? (i := 165) rfl))
theorem fl_X9_71 : Cond.fieldLink RX9 71 "RowsColumnsModel" "dDays" "I" ∈ lw_tbl := (mt4 _ (List.mem_of_getElem? (i := 166) rfl))
theorem fl_X9_23 : Cond.fieldLink RX9 23 "RowsColumnsModel" "dDay" "[I" ∈ lw_tbl := (mt4 _ (List.mem_of_getElem? (i := 167) rfl))
theorem fl_X9_26 : Cond.fieldLink RX9 26 "RowsColumnsModel" "tape" "[I" ∈ lw_tbl := (mt4 _ (List.mem_of_getElem? (i := 168) rfl))
theorem fl_X9_92 : Cond.fieldLink RX9 92 "RowsColumnsModel" "taped" "I" ∈ lw_tbl := (mt4 _ (List.mem_of_getElem? (i := 169) rfl))
theorem fl_X9_110 : Cond.fieldLink RX9 110 "RowsColumnsModel" "pos" "I" ∈ lw_tbl := (mt4 _ (List.mem_of_getElem? (i := 170) rfl))
theorem fl_X9_104 : Cond.fieldLink RX9 104 "RowsColumnsModel" "from" "I" ∈ lw_tbl := (mt4 _ (List.mem_of_getElem? (i := 171) rfl))
theorem fl_X9_124 : Cond.fieldLink RX9 124 "RowsColumnsModel" "sort" "I" ∈ lw_tbl := (mt4 _ (List.mem_of_getElem? (i := 172) rfl))
theorem fl_X9_135 : Cond.fieldLink RX9 135 "RowsColumnsModel" "value" "I" ∈ lw_tbl := (mt4 _ (List.mem_of_getElem? (i := 173) rfl))
theorem fl_X9_101 : Cond.fieldLink RX9 101 "RowsColumnsModel" "fault" "I" ∈ lw_tbl := (mt4 _ (List.mem_of_getElem? (i := 174) rfl))
theorem fl_X9_107 : Cond.fieldLink RX9 107 "RowsColumnsModel" "wrongAt" "I" ∈ lw_tbl := (mt4 _ (List.mem_of_getElem? (i := 175) rfl))
theorem fl_X9_142 : Cond.fieldLink RX9 142 "RowsColumnsModel" "rowsRead" "I" ∈ lw_tbl := (mt4 _ (List.mem_of_getElem? (i := 176) rfl))
theorem fl_X9_145 : Cond.fieldLink RX9 145 "RowsColumnsModel" "wideRead" "I" ∈ lw_tbl := (mt4 _ (List.mem_of_getElem? (i := 177) rfl))
theorem fl_X9_148 : Cond.fieldLink RX9 148 "RowsColumnsModel" "setRead" "J" ∈ lw_tbl := (mt4 _ (List.mem_of_getElem? (i := 178) rfl))
theorem fl_X9_245 : Cond.fieldLink RX9 245 "RowsColumnsModel" "planRows" "I" ∈ lw_tbl := (mt4 _ (List.mem_of_getElem? (i := 179) rfl))
theorem fl_X9_248 : Cond.fieldLink RX9 248 "RowsColumnsModel" "planColumns" "I" ∈ lw_tbl := (mt4 _ (List.mem_of_getElem? (i := 180) rfl))
theorem fl_X9_260 : Cond.fieldLink RX9 260 "RowsColumnsModel" "nearMany" "I" ∈ lw_tbl := (mt4 _ (List.mem_of_getElem? (i := 181) rfl))
theorem fl_X9_263 : Cond.fieldLink RX9 263 "RowsColumnsModel" "nearRows" "I" ∈ lw_tbl := (mt4 _ (List.mem_of_getElem? (i := 182) rfl))
theorem fl_X9_266 : Cond.fieldLink RX9 266 "RowsColumnsModel" "nearColumns" "I" ∈ lw_tbl := (mt4 _ (List.mem_of_getElem? (i := 183) rfl))
theorem fl_X9_29 : Cond.fieldLink RX9 29 "RowsColumnsModel" "base" "[J" ∈ lw_tbl := (mt4 _ (List.mem_of_getElem? (i := 184) rfl))
theorem fl_X9_32 : Cond.fieldLink RX9 32 "RowsColumnsModel" "worth" "[I" ∈ lw_tbl := (mt4 _ (List.mem_of_getElem? (i := 185) rfl))
theorem fl_X9_301 : Cond.fieldLink RX9 301 "RowsColumnsModel" "firstMove" "I" ∈ lw_tbl := (mt4 _ (List.mem_of_getElem? (i := 186) rfl))
theorem fl_X9_320 : Cond.fieldLink RX9 320 "RowsColumnsModel" "nameForm" "J" ∈ lw_tbl := (mt4 _ (List.mem_of_getElem? (i := 187) rfl))
theorem fl_X9_317 : Cond.fieldLink RX9 317 "RowsColumnsModel" "nameTurning" "I" ∈ lw_tbl := (mt4 _ (List.mem_of_getElem? (i := 188) rfl))
theorem fl_X9_323 : Cond.fieldLink RX9 323 "RowsColumnsModel" "nameHigh" "I" ∈ lw_tbl := (mt4 _ (List.mem_of_getElem? (i := 189) rfl))
theorem fl_X9_326 : Cond.fieldLink RX9 326 "RowsColumnsModel" "nameWide" "I" ∈ lw_tbl := (mt4 _ (List.mem_of_getElem? (i := 190) rfl))
theorem fl_X9_35 : Cond.fieldLink RX9 35 "RowsColumnsModel" "lanes" "[I" ∈ lw_tbl := (mt4 _ (List.mem_of_getElem? (i := 191) rfl))
theorem fl_X9_38 : Cond.fieldLink RX9 38 "RowsColumnsModel" "sizes" "[I" ∈ lw_tbl := (mt4 _ (List.mem_of_getElem? (i := 192) rfl))
theorem fl_X9_41 : Cond.fieldLink RX9 41 "RowsColumnsModel" "cells" "[I" ∈ lw_tbl := (mt4 _ (List.mem_of_getElem? (i := 193) rfl))
theorem fl_X9_338 : Cond.fieldLink RX9 338 "RowsColumnsModel" "torn" "I" ∈ lw_tbl := (mt4 _ (List.mem_of_getElem? (i := 194) rfl))
theorem ml_L_19 : Cond.methodLink RL 19 yX9_feed ∈ lw_tbl := (mt5 _ (List.mem_of_getElem? (i := 50) rfl))
theorem kl_X9_95 : Cond.constantLong RX9 95 (255) ∈ lw_tbl := (mt5 _ (List.mem_of_getElem? (i := 54) rfl))
theorem ml_L_24 : Cond.methodLink RL 24 yX9_end ∈ lw_tbl := (mt5 _ (List.mem_of_getElem? (i := 55) rfl))
theorem ml_X9_97 : Cond.methodLink RX9 97 yX9_in ∈ lw_tbl := (mt5 _ (List.mem_of_getElem? (i := 59) rfl))
theorem ml_L_29 : Cond.methodLink RL 29 yX9_text ∈ lw_tbl := (mt5 _ (List.mem_of_getElem? (i := 62) rfl))
theorem ml_X9_159 : Cond.methodLink RX9 159 yX9_next ∈ lw_tbl := (mt5 _ (List.mem_of_getElem? (i := 66) rfl))
theorem ml_X9_113 : Cond.methodLink RX9 113 yX9_look ∈ lw_tbl := (mt5 _ (List.mem_of_getElem? (i := 70) rfl))
theorem kl_X9_127 : Cond.constantLong RX9 127 (97) ∈ lw_tbl := (mt5 _ (List.mem_of_getElem? (i := 74) rfl))
theorem kl_X9_129 : Cond.constantLong RX9 129 (122) ∈ lw_tbl := (mt5 _ (List.mem_of_getElem? (i := 75) rfl))
theorem kl_X9_131 : Cond.constantLong RX9 131 (48) ∈ lw_tbl := (mt5 _ (List.mem_of_getElem? (i := 76) rfl))
theorem kl_X9_133 : Cond.constantLong RX9 133 (57) ∈ lw_tbl := (mt5 _ (List.mem_of_getElem? (i := 77) rfl))
theorem ml_X9_138 : Cond.methodLink RX9 138 yX9_needs ∈ lw_tbl := (mt5 _ (List.mem_of_getElem? (i := 78) rfl))
theorem ml_X9_194 : Cond.methodLink RX9 194 yX9_readLine ∈ lw_tbl := (mt5 _ (List.mem_of_getElem? (i := 82) rfl))
theorem ml_X9_174 : Cond.methodLink RX9 174 yX9_lineNow ∈ lw_tbl := (mt5 _ (List.mem_of_getElem? (i := 86) rfl))
theorem ml_X9_117 : Cond.methodLink RX9 117 yX9_is ∈ lw_tbl := (mt5 _ (List.mem_of_getElem? (i := 90) rfl))
theorem ml_X9_121 : Cond.methodLink RX9 121 yX9_goesOn ∈ lw_tbl := (mt5 _ (List.mem_of_getElem? (i := 94) rfl))
theorem ml_X9_177 : Cond.methodLink RX9 177 yX9_readDay ∈ lw_tbl := (mt5 _ (List.mem_of_getElem? (i := 98) rfl))
theorem ml_X9_170 : Cond.methodLink RX9 170 yX9_readAct ∈ lw_tbl := (mt5 _ (List.mem_of_getElem? (i := 102) rfl))
theorem ml_X9_162 : Cond.methodLink RX9 162 yX9_actNow ∈ lw_tbl := (mt5 _ (List.mem_of_getElem? (i := 106) rfl))
theorem kl_X9_166 : Cond.constantLong RX9 166 (14) ∈ lw_tbl := (mt5 _ (List.mem_of_getElem? (i := 110) rfl))
theorem kl_X9_168 : Cond.constantLong RX9 168 (7) ∈ lw_tbl := (mt5 _ (List.mem_of_getElem? (i := 111) rfl))
theorem ml_X9_180 : Cond.methodLink RX9 180 yX9_readRows ∈ lw_tbl := (mt5 _ (List.mem_of_getElem? (i := 112) rfl))
theorem ml_X9_151 : Cond.methodLink RX9 151 yX9_isRowName ∈ lw_tbl := (mt5 _ (List.mem_of_getElem? (i := 116) rfl))
theorem ml_X9_155 : Cond.methodLink RX9 155 yX9_bitOf ∈ lw_tbl := (mt5 _ (List.mem_of_getElem? (i := 120) rfl))
theorem ml_X9_197 : Cond.methodLink RX9 197 yX9_areActs ∈ lw_tbl := (mt5 _ (List.mem_of_getElem? (i := 123) rfl))
theorem ml_X9_191 : Cond.methodLink RX9 191 yX9_isActOf ∈ lw_tbl := (mt5 _ (List.mem_of_getElem? (i := 127) rfl))
theorem kl_X9_189 : Cond.constantLong RX9 189 (2) ∈ lw_tbl := (mt5 _ (List.mem_of_getElem? (i := 130) rfl))
theorem ml_L_33 : Cond.methodLink RL 33 yX9_fault ∈ lw_tbl := (mt5 _ (List.mem_of_getElem? (i := 131) rfl))
theorem ml_L_37 : Cond.methodLink RL 37 yX9_rule ∈ lw_tbl := (mt5 _ (List.mem_of_getElem? (i := 135) rfl))
theorem ml_X9_200 : Cond.methodLink RX9 200 yX9_flag ∈ lw_tbl := (mt5 _ (List.mem_of_getElem? (i := 139) rfl))
theorem ml_L_42 : Cond.methodLink RL 42 yX9_day ∈ lw_tbl := (mt5 _ (List.mem_of_getElem? (i := 142) rfl))
theorem kl_X9_204 : Cond.constantLong RX9 204 (-1) ∈ lw_tbl := (mt5 _ (List.mem_of_getElem? (i := 146) rfl))
theorem ml_L_47 : Cond.methodLink RL 47 yX9_cloth ∈ lw_tbl := (mt5 _ (List.mem_of_getElem? (i := 147) rfl))
theorem ml_L_51 : Cond.methodLink RL 51 yX9_square ∈ lw_tbl := (mt5 _ (List.mem_of_getElem? (i := 151) rfl))
theorem ml_X9_206 : Cond.methodLink RX9 206 yX9_isSquare ∈ lw_tbl := (mt5 _ (List.mem_of_getElem? (i := 155) rfl))
theorem ml_X9_210 : Cond.methodLink RX9 210 yX9_isDark ∈ lw_tbl := (mt5 _ (List.mem_of_getElem? (i := 159) rfl))
theorem ml_L_56 : Cond.methodLink RL 56 yX9_paint ∈ lw_tbl := (mt5 _ (List.mem_of_getElem? (i := 162) rfl))
theorem ml_L_60 : Cond.methodLink RL 60 yX9_wish ∈ lw_tbl := (mt5 _ (List.mem_of_getElem? (i := 166) rfl))
theorem ml_L_64 : Cond.methodLink RL 64 yX9_act ∈ lw_tbl := (mt5 _ (List.mem_of_getElem? (i := 170) rfl))
theorem ml_X9_214 : Cond.methodLink RX9 214 yX9_isAct ∈ lw_tbl := (mt5 _ (List.mem_of_getElem? (i := 174) rfl))
theorem ml_X9_217 : Cond.methodLink RX9 217 yX9_actSet ∈ lw_tbl := (mt5 _ (List.mem_of_getElem? (i := 178) rfl))
theorem ml_X9_220 : Cond.methodLink RX9 220 yX9_many ∈ lw_tbl := (mt5 _ (List.mem_of_getElem? (i := 182) rfl))
theorem ml_L_68 : Cond.methodLink RL 68 yX9_turn ∈ lw_tbl := (mt5 _ (List.mem_of_getElem? (i := 185) rfl))
theorem ml_X9_224 : Cond.methodLink RX9 224 yX9_turnSet ∈ lw_tbl := (mt5 _ (List.mem_of_getElem? (i := 189) rfl))
theorem ml_L_72 : Cond.methodLink RL 72 yX9_go ∈ lw_tbl := (mt5 _ (List.mem_of_getElem? (i := 193) rfl))
theorem ml_L_76 : Cond.methodLink RL 76 yX9_form ∈ lw_tbl := (mt5 _ (List.mem_of_getElem? (i := 197) rfl))
theorem ml_X9_231 : Cond.methodLink RX9 231 yX9_formNow ∈ lw_tbl := (mt5 _ (List.mem_of_getElem? (i := 201) rfl))
theorem ml_X9_227 : Cond.methodLink RX9 227 yX9_formOf ∈ lw_tbl := (mt5 _ (List.mem_of_getElem? (i := 205) rfl))
theorem ml_L_81 : Cond.methodLink RL 81 yX9_forms ∈ lw_tbl := (mt5 _ (List.mem_of_getElem? (i := 208) rfl))
theorem ml_L_85 : Cond.methodLink RL 85 yX9_alike ∈ lw_tbl := (mt5 _ (List.mem_of_getElem? (i := 212) rfl))
theorem ml_X9_235 : Cond.methodLink RX9 235 yX9_isImage ∈ lw_tbl := (mt5 _ (List.mem_of_getElem? (i := 216) rfl))
theorem ml_X9_239 : Cond.methodLink RX9 239 yX9_isKept ∈ lw_tbl := (mt5 _ (List.mem_of_getElem? (i := 219) rfl))
theorem ml_X9_242 : Cond.methodLink RX9 242 yX9_isOfSize ∈ lw_tbl := (mt5 _ (List.mem_of_getElem? (i := 223) rfl))
theorem ml_L_89 : Cond.methodLink RL 89 yX9_plan ∈ lw_tbl := (mt5 _ (List.mem_of_getElem? (i := 227) rfl))
theorem kl_X9_251 : Cond.constantLong RX9 251 (3) ∈ lw_tbl := (mt5 _ (List.mem_of_getElem? (i := 231) rfl))
theorem ml_X9_253 : Cond.methodLink RX9 253 yX9_findPlan ∈ lw_tbl := (mt5 _ (List.mem_of_getElem? (i := 232) rfl))
theorem ml_X9_257 : Cond.methodLink RX9 257 yX9_planTold ∈ lw_tbl := (mt5 _ (List.mem_of_getElem? (i := 236) rfl))
theorem ml_L_93 : Cond.methodLink RL 93 yX9_nearest ∈ lw_tbl := (mt6 _ (List.mem_of_getElem? (i := 0) rfl))
theorem ml_X9_269 : Cond.methodLink RX9 269 yX9_findNearest ∈ lw_tbl := (mt6 _ (List.mem_of_getElem? (i := 4) rfl))
theorem ml_X9_273 : Cond.methodLink RX9 273 yX9_nearTold ∈ lw_tbl := (mt6 _ (List.mem_of_getElem? (i := 8) rfl))
theorem ml_L_97 : Cond.methodLink RL 97 yX9_lightest ∈ lw_tbl := (mt6 _ (List.mem_of_getElem? (i := 12) rfl))
theorem ml_L_101 : Cond.methodLink RL 101 yX9_blind ∈ lw_tbl := (mt6 _ (List.mem_of_getElem? (i := 16) rfl))
theorem ml_X9_276 : Cond.methodLink RX9 276 yX9_mostOf ∈ lw_tbl := (mt6 _ (List.mem_of_getElem? (i := 20) rfl))
theorem ml_L_105 : Cond.methodLink RL 105 yX9_slanted ∈ lw_tbl := (mt6 _ (List.mem_of_getElem? (i := 24) rfl))
theorem ml_X9_280 : Cond.methodLink RX9 280 yX9_isBefore ∈ lw_tbl := (mt6 _ (List.mem_of_getElem? (i := 28) rfl))
theorem ml_L_109 : Cond.methodLink RL 109 yX9_power ∈ lw_tbl := (mt6 _ (List.mem_of_getElem? (i := 32) rfl))
theorem ml_X9_284 : Cond.methodLink RX9 284 yX9_isNew ∈ lw_tbl := (mt6 _ (List.mem_of_getElem? (i := 36) rfl))
theorem ml_L_114 : Cond.methodLink RL 114 yX9_duel ∈ lw_tbl := (mt6 _ (List.mem_of_getElem? (i := 40) rfl))
theorem kl_X9_291 : Cond.constantLong RX9 291 (4) ∈ lw_tbl := (mt6 _ (List.mem_of_getElem? (i := 44) rfl))
theorem ml_X9_293 : Cond.methodLink RX9 293 yX9_worthOf ∈ lw_tbl := (mt6 _ (List.mem_of_getElem? (i := 45) rfl))
theorem ml_X9_287 : Cond.methodLink RX9 287 yX9_isMove ∈ lw_tbl := (mt6 _ (List.mem_of_getElem? (i := 49) rfl))
theorem ml_X9_297 : Cond.methodLink RX9 297 yX9_best ∈ lw_tbl := (mt6 _ (List.mem_of_getElem? (i := 53) rfl))
theorem ml_L_118 : Cond.methodLink RL 118 yX9_turned ∈ lw_tbl := (mt6 _ (List.mem_of_getElem? (i := 57) rfl))
theorem ml_L_122 : Cond.methodLink RL 122 yX9_spoilt ∈ lw_tbl := (mt6 _ (List.mem_of_getElem? (i := 61) rfl))
theorem ml_L_126 : Cond.methodLink RL 126 yX9_both ∈ lw_tbl := (mt6 _ (List.mem_of_getElem? (i := 65) rfl))
theorem ml_L_130 : Cond.methodLink RL 130 yX9_rotate ∈ lw_tbl := (mt6 _ (List.mem_of_getElem? (i := 69) rfl))
theorem ml_X9_310 : Cond.methodLink RX9 310 yX9_rotated ∈ lw_tbl := (mt6 _ (List.mem_of_getElem? (i := 73) rfl))
theorem ml_X9_304 : Cond.methodLink RX9 304 yX9_mirrored ∈ lw_tbl := (mt6 _ (List.mem_of_getElem? (i := 76) rfl))
theorem ml_X9_307 : Cond.methodLink RX9 307 yX9_quarter ∈ lw_tbl := (mt6 _ (List.mem_of_getElem? (i := 79) rfl))
theorem ml_L_135 : Cond.methodLink RL 135 yX9_cut ∈ lw_tbl := (mt6 _ (List.mem_of_getElem? (i := 82) rfl))
theorem ml_X9_314 : Cond.methodLink RX9 314 yX9_endsPattern ∈ lw_tbl := (mt6 _ (List.mem_of_getElem? (i := 86) rfl))
theorem ml_L_140 : Cond.methodLink RL 140 yX9_sew ∈ lw_tbl := (mt6 _ (List.mem_of_getElem? (i := 90) rfl))
theorem ml_L_144 : Cond.methodLink RL 144 yX9_name ∈ lw_tbl := (mt6 _ (List.mem_of_getElem? (i := 94) rfl))
theorem ml_X9_329 : Cond.methodLink RX9 329 yX9_findName ∈ lw_tbl := (mt6 _ (List.mem_of_getElem? (i := 98) rfl))
theorem ml_L_148 : Cond.methodLink RL 148 yX9_cousin ∈ lw_tbl := (mt6 _ (List.mem_of_getElem? (i := 102) rfl))
theorem ml_L_152 : Cond.methodLink RL 152 yX9_keep ∈ lw_tbl := (mt6 _ (List.mem_of_getElem? (i := 106) rfl))
theorem ml_L_156 : Cond.methodLink RL 156 yX9_back ∈ lw_tbl := (mt6 _ (List.mem_of_getElem? (i := 110) rfl))
theorem ml_L_161 : Cond.methodLink RL 161 yX9_sheet ∈ lw_tbl := (mt6 _ (List.mem_of_getElem? (i := 114) rfl))
theorem ml_X9_333 : Cond.methodLink RX9 333 yX9_isSheet ∈ lw_tbl := (mt6 _ (List.mem_of_getElem? (i := 118) rfl))
theorem ml_L_165 : Cond.methodLink RL 165 yX9_lay ∈ lw_tbl := (mt6 _ (List.mem_of_getElem? (i := 121) rfl))
theorem ml_L_169 : Cond.methodLink RL 169 yX9_read ∈ lw_tbl := (mt6 _ (List.mem_of_getElem? (i := 125) rfl))
theorem kl_X9_336 : Cond.constantLong RX9 336 (20) ∈ lw_tbl := (mt6 _ (List.mem_of_getElem? (i := 129) rfl))
theorem ml_L_173 : Cond.methodLink RL 173 yX9_torn ∈ lw_tbl := (mt6 _ (List.mem_of_getElem? (i := 130) rfl))
theorem ml_L_177 : Cond.methodLink RL 177 yX9_count ∈ lw_tbl := (mt6 _ (List.mem_of_getElem? (i := 134) rfl))
theorem kl_L_13 : Cond.constantLong RL 13 (4294967295) ∈ lw_tbl := (mt6 _ (List.mem_of_getElem? (i := 138) rfl))
theorem fl_J0_9 : Cond.fieldLink RJ0 9 "java/lang/String" "value" "[B" ∈ lw_tbl := (mt6 _ (List.mem_of_getElem? (i := 139) rfl))
theorem fl_J0_15 : Cond.fieldLink RJ0 15 "java/lang/String" "coder" "B" ∈ lw_tbl := (mt6 _ (List.mem_of_getElem? (i := 140) rfl))
theorem oc_code : Cond.code Lib.objectInit ⟨#[0xb1]⟩ 1 none ∈ lw_tbl := (mt1 _ (List.mem_of_getElem? (i := 25) rfl))
theorem oc_inst : Cond.instanceMethod Lib.objectInit ∈ lw_tbl := (mt1 _ (List.mem_of_getElem? (i := 24) rfl))
def gw : List Cond := lw_tbl.filter goodWord
theorem gw_in {w : Cond} (h : w ∈ lw_tbl) (g : goodWord w = true) : w ∈ gw := List.mem_filter.mpr ⟨h, g⟩
theorem gw_lw {w : Cond} (h : w ∈ gw) : w ∈ lw_tbl := (List.mem_filter.mp h).1
theorem gw_good {w : Cond} (h : w ∈ gw) : goodWord w = true := (List.mem_filter.mp h).2
def At (c : ByteArray) (pc : Nat) (i : Instr) (n q : Nat) : Prop := decode c pc = .ok (i, n) ∧ pc + n = q
theorem tat {c : ByteArray} {T : List (Nat × Instr × Nat)} (h : (T.all fun q => decide (decode c q.1 = .ok q.2)) = true) {i pc n : Nat} {ins : Instr} {q : Nat} (hi : T[i]? = some (pc, ins, n)) (hq : pc + n = q) : At c pc ins n q := by
  have h1 := List.all_eq_true.mp h (pc, ins, n) (List.mem_of_getElem? hi)
  exact ⟨of_decide_eq_true h1, hq⟩
def tb_X0_init_0 : List (Nat × Instr × Nat) := [(0, .aload_n 0, 1), (1, .invokespecial 3, 3), (4, .aload_n 0, 1), (5, .iconst 4, 1), (6, .putfield 11, 3), (9, .aload_n 0, 1), (10, .iconst 4, 1), (11, .putfield 15, 3), (14, .aload_n 0, 1), (15, .iload_n 1, 1), (16, .putfield 18, 3), (19, .return_, 1)]
theorem ok_X0_init_0 : (tb_X0_init_0.all fun q => decide (decode cX0_init q.1 = .ok q.2)) = true := rdc_all _ 0 _ rfl (by decide +kernel)
def tb_X0_forget_0 : List (Nat × Instr × Nat) := [(0, .aload_n 0, 1), (1, .iconst 0, 1), (2, .putfield 18, 3), (5, .aload_n 0, 1), (6, .iconst 4, 1), (7, .putfield 11, 3), (10, .aload_n 0, 1), (11, .iconst 4, 1), (12, .putfield 15, 3), (15, .aload_n 0, 1), (16, .lconst 0, 1), (17, .putfield 22, 3), (20, .return_, 1)]
theorem ok_X0_forget_0 : (tb_X0_forget_0.all fun q => decide (decode cX0_forget q.1 = .ok q.2)) = true := rdc_all _ 0 _ rfl (by decide +kernel)
def tb_X0_become_0 : List (Nat × Instr × Nat) := [(0, .aload_n 0, 1), (1, .aload_n 1, 1), (2, .getfield 18, 3), (5, .putfield 18, 3), (8, .aload_n 0, 1), (9, .aload_n 1, 1), (10, .getfield 11, 3), (13, .putfield 11, 3), (16, .aload_n 0, 1), (17, .aload_n 1, 1), (18, .getfield 15, 3), (21, .putfield 15, 3), (24, .aload_n 0, 1), (25, .aload_n 1, 1), (26, .getfield 22, 3), (29, .putfield 22, 3), (32, .return_, 1)]
theorem ok_X0_become_0 : (tb_X0_become_0.all fun q => decide (decode cX0_become q.1 = .ok q.2)) = true := rdc_all _ 0 _ rfl (by decide +kernel)
def tb_X0_resize_0 : List (Nat × Instr × Nat) := [(0, .aload_n 0, 1), (1, .iload_n 1, 1), (2, .putfield 11, 3), (5, .aload_n 0, 1), (6, .iload_n 2, 1), (7, .putfield 15, 3), (10, .aload_n 0, 1), (11, .lload_n 3, 1), (12, .aload_n 0, 1), (13, .invokevirtual 26, 3), (16, .land, 1), (17, .putfield 22, 3), (20, .return_, 1)]
theorem ok_X0_resize_0 : (tb_X0_resize_0.all fun q => decide (decode cX0_resize q.1 = .ok q.2)) = true := rdc_all _ 0 _ rfl (by decide +kernel)
def tb_X0_sameSize_0 : List (Nat × Instr × Nat) := [(0, .aload_n 0, 1), (1, .getfield 11, 3), (4, .aload_n 1, 1), (5, .getfield 11, 3), (8, .if_icmp .ne 18, 3), (11, .aload_n 0, 1), (12, .getfield 15, 3), (15, .aload_n 1, 1), (16, .getfield 15, 3), (19, .if_icmp .ne 7, 3), (22, .iconst 1, 1), (23, .goto 4, 3), (26, .iconst 0, 1), (27, .ireturn, 1)]
theorem ok_X0_sameSize_0 : (tb_X0_sameSize_0.all fun q => decide (decode cX0_sameSize q.1 = .ok q.2)) = true := rdc_all _ 0 _ rfl (by decide +kernel)
def tb_X0_darkSquares_0 : List (Nat × Instr × Nat) := [(0, .aload_n 0, 1), (1, .getfield 22, 3), (4, .invokestatic 30, 3), (7, .ireturn, 1)]
theorem ok_X0_darkSquares_0 : (tb_X0_darkSquares_0.all fun q => decide (decode cX0_darkSquares q.1 = .ok q.2)) = true := rdc_all _ 0 _ rfl (by decide +kernel)
def tb_X0_everyRow_0 : List (Nat × Instr × Nat) := [(0, .iconst 1, 1), (1, .aload_n 0, 1), (2, .getfield 11, 3), (5, .ishl, 1), (6, .iconst 1, 1), (7, .isub, 1), (8, .ireturn, 1)]
theorem ok_X0_everyRow_0 : (tb_X0_everyRow_0.all fun q => decide (decode cX0_everyRow q.1 = .ok q.2)) = true := rdc_all _ 0 _ rfl (by decide +kernel)
def tb_X0_everyColumn_0 : List (Nat × Instr × Nat) := [(0, .iconst 1, 1), (1, .aload_n 0, 1), (2, .getfield 15, 3), (5, .ishl, 1), (6, .iconst 1, 1), (7, .isub, 1), (8, .ireturn, 1)]
theorem ok_X0_everyColumn_0 : (tb_X0_everyColumn_0.all fun q => decide (decode cX0_everyColumn q.1 = .ok q.2)) = true := rdc_all _ 0 _ rfl (by decide +kernel)
def tb_X0_allSquares_0 : List (Nat × Instr × Nat) := [(0, .aload_n 0, 1), (1, .invokevirtual 36, 3), (4, .i2l, 1), (5, .aload_n 0, 1), (6, .iconst 0, 1), (7, .invokevirtual 40, 3), (10, .lmul, 1), (11, .lreturn, 1)]
theorem ok_X0_allSquares_0 : (tb_X0_allSquares_0.all fun q => decide (decode cX0_allSquares q.1 = .ok q.2)) = true := rdc_all _ 0 _ rfl (by decide +kernel)
def tb_X0_hasSquare_0 : List (Nat × Instr × Nat) := [(0, .iload_n 1, 1), (1, .ifCond .lt 27, 3), (4, .iload_n 1, 1), (5, .aload_n 0, 1), (6, .getfield 11, 3), (9, .if_icmp .ge 19, 3), (12, .iload_n 2, 1), (13, .ifCond .lt 15, 3), (16, .iload_n 2, 1), (17, .aload_n 0, 1), (18, .getfield 15, 3), (21, .if_icmp .ge 7, 3), (24, .iconst 1, 1), (25, .goto 4, 3), (28, .iconst 0, 1), (29, .ireturn, 1)]
theorem ok_X0_hasSquare_0 : (tb_X0_hasSquare_0.all fun q => decide (decode cX0_hasSquare q.1 = .ok q.2)) = true := rdc_all _ 0 _ rfl (by decide +kernel)
def tb_X0_squareAt_0 : List (Nat × Instr × Nat) := [(0, .aload_n 0, 1), (1, .getfield 22, 3), (4, .bipush 8, 2), (6, .iload_n 1, 1), (7, .imul, 1), (8, .iload_n 2, 1), (9, .iadd, 1), (10, .lushr, 1), (11, .l2i, 1), (12, .iconst 1, 1), (13, .iand, 1), (14, .ireturn, 1)]
theorem ok_X0_squareAt_0 : (tb_X0_squareAt_0.all fun q => decide (decode cX0_squareAt q.1 = .ok q.2)) = true := rdc_all _ 0 _ rfl (by decide +kernel)
def tb_X0_colour_0 : List (Nat × Instr × Nat) := [(0, .aload_n 0, 1), (1, .iload_n 1, 1), (2, .iload_n 2, 1), (3, .invokevirtual 44, 3), (6, .istore 4, 2), (8, .lconst 1, 1), (9, .bipush 8, 2), (11, .iload_n 1, 1), (12, .imul, 1), (13, .iload_n 2, 1), (14, .iadd, 1), (15, .lshl, 1), (16, .lstore 5, 2), (18, .aload_n 0, 1), (19, .iload_n 3, 1), (20, .ifCond .eq 13, 3), (23, .aload_n 0, 1), (24, .getfield 22, 3), (27, .lload 5, 2), (29, .lor, 1), (30, .goto 14, 3), (33, .aload_n 0, 1), (34, .getfield 22, 3), (37, .lload 5, 2), (39, .ldc2_w 48, 3), (42, .lxor, 1), (43, .land, 1), (44, .putfield 22, 3), (47, .iload 4, 2), (49, .ireturn, 1)]
theorem ok_X0_colour_0 : (tb_X0_colour_0.all fun q => decide (decode cX0_colour q.1 = .ok q.2)) = true := rdc_all _ 0 _ rfl (by decide +kernel)
def tb_X0_linesOf_0 : List (Nat × Instr × Nat) := [(0, .iload_n 1, 1), (1, .tableswitch 49 0 2 #[27, 32, 37], 27), (28, .aload_n 0, 1), (29, .getfield 11, 3), (32, .ireturn, 1), (33, .aload_n 0, 1), (34, .getfield 15, 3), (37, .ireturn, 1), (38, .aload_n 0, 1), (39, .getfield 11, 3), (42, .aload_n 0, 1), (43, .getfield 15, 3), (46, .iadd, 1), (47, .iconst 1, 1), (48, .isub, 1), (49, .ireturn, 1), (50, .iconst 0, 1), (51, .ireturn, 1)]
theorem ok_X0_linesOf_0 : (tb_X0_linesOf_0.all fun q => decide (decode cX0_linesOf q.1 = .ok q.2)) = true := rdc_all _ 0 _ rfl (by decide +kernel)
def tb_X0_hasLine_0 : List (Nat × Instr × Nat) := [(0, .iload_n 2, 1), (1, .ifCond .lt 16, 3), (4, .iload_n 2, 1), (5, .aload_n 0, 1), (6, .iload_n 1, 1), (7, .invokevirtual 50, 3), (10, .if_icmp .ge 7, 3), (13, .iconst 1, 1), (14, .goto 4, 3), (17, .iconst 0, 1), (18, .ireturn, 1)]
theorem ok_X0_hasLine_0 : (tb_X0_hasLine_0.all fun q => decide (decode cX0_hasLine q.1 = .ok q.2)) = true := rdc_all _ 0 _ rfl (by decide +kernel)
def tb_X0_squaresOf_0 : List (Nat × Instr × Nat) := [(0, .aload_n 0, 1), (1, .iload_n 1, 1), (2, .iload_n 2, 1), (3, .invokevirtual 54, 3), (6, .ifCond .ne 5, 3), (9, .lconst 0, 1), (10, .lreturn, 1), (11, .iload_n 1, 1), (12, .ifCond .ne 14, 3), (15, .aload_n 0, 1), (16, .invokevirtual 36, 3), (19, .i2l, 1), (20, .bipush 8, 2), (22, .iload_n 2, 1), (23, .imul, 1), (24, .lshl, 1), (25, .lreturn, 1), (26, .iload_n 1, 1), (27, .iconst 1, 1), (28, .if_icmp .ne 11, 3), (31, .aload_n 0, 1), (32, .iload_n 2, 1), (33, .invokevirtual 40, 3), (36, .goto 8, 3), (39, .aload_n 0, 1), (40, .iload_n 2, 1), (41, .invokevirtual 58, 3), (44, .lreturn, 1)]
theorem ok_X0_squaresOf_0 : (tb_X0_squaresOf_0.all fun q => decide (decode cX0_squaresOf q.1 = .ok q.2)) = true := rdc_all _ 0 _ rfl (by decide +kernel)
def tb_X0_columnSquares_0 : List (Nat × Instr × Nat) := [(0, .ldc2_w 61, 3), (3, .bipush 64, 2), (5, .bipush 8, 2), (7, .aload_n 0, 1), (8, .getfield 11, 3), (11, .imul, 1), (12, .isub, 1), (13, .lushr, 1), (14, .iload_n 1, 1), (15, .lshl, 1), (16, .lreturn, 1)]
theorem ok_X0_columnSquares_0 : (tb_X0_columnSquares_0.all fun q => decide (decode cX0_columnSquares q.1 = .ok q.2)) = true := rdc_all _ 0 _ rfl (by decide +kernel)
def tb_X0_slantSquares_0 : List (Nat × Instr × Nat) := [(0, .lconst 0, 1), (1, .lstore_n 2, 1), (2, .iconst 0, 1), (3, .istore 4, 2), (5, .iload 4, 2), (7, .aload_n 0, 1), (8, .getfield 11, 3), (11, .if_icmp .ge 37, 3), (14, .aload_n 0, 1), (15, .iload 4, 2), (17, .iload_n 1, 1), (18, .iload 4, 2), (20, .isub, 1), (21, .invokevirtual 63, 3), (24, .ifCond .eq 18, 3), (27, .lload_n 2, 1), (28, .lconst 1, 1), (29, .bipush 8, 2), (31, .iload 4, 2), (33, .imul, 1), (34, .iload_n 1, 1), (35, .iadd, 1), (36, .iload 4, 2), (38, .isub, 1), (39, .lshl, 1), (40, .lor, 1), (41, .lstore_n 2, 1), (42, .iinc 4 1, 3), (45, .goto (-40), 3), (48, .lload_n 2, 1), (49, .lreturn, 1)]
theorem ok_X0_slantSquares_0 : (tb_X0_slantSquares_0.all fun q => decide (decode cX0_slantSquares q.1 = .ok q.2)) = true := rdc_all _ 0 _ rfl (by decide +kernel)
def tb_X0_squaresTurned_0 : List (Nat × Instr × Nat) := [(0, .iload_n 2, 1), (1, .i2l, 1), (2, .aload_n 0, 1), (3, .iconst 0, 1), (4, .invokevirtual 40, 3), (7, .lmul, 1), (8, .lstore_n 3, 1), (9, .iconst 0, 1), (10, .istore 5, 2), (12, .iload 5, 2), (14, .aload_n 0, 1), (15, .getfield 11, 3), (18, .if_icmp .ge 28, 3), (21, .iload_n 1, 1), (22, .iload 5, 2), (24, .ishr, 1), (25, .iconst 1, 1), (26, .iand, 1), (27, .ifCond .eq 13, 3), (30, .lload_n 3, 1), (31, .aload_n 0, 1), (32, .iconst 0, 1), (33, .iload 5, 2), (35, .invokevirtual 66, 3), (38, .lxor, 1), (39, .lstore_n 3, 1), (40, .iinc 5 1, 3), (43, .goto (-31), 3), (46, .lload_n 3, 1), (47, .lreturn, 1)]
theorem ok_X0_squaresTurned_0 : (tb_X0_squaresTurned_0.all fun q => decide (decode cX0_squaresTurned q.1 = .ok q.2)) = true := rdc_all _ 0 _ rfl (by decide +kernel)
def tb_X0_columnsOfFirstRow_0 : List (Nat × Instr × Nat) := [(0, .lload_n 1, 1), (1, .l2i, 1), (2, .aload_n 0, 1), (3, .invokevirtual 36, 3), (6, .iand, 1), (7, .ireturn, 1)]
theorem ok_X0_columnsOfFirstRow_0 : (tb_X0_columnsOfFirstRow_0.all fun q => decide (decode cX0_columnsOfFirstRow q.1 = .ok q.2)) = true := rdc_all _ 0 _ rfl (by decide +kernel)
def tb_X0_rowsUnlikeFirst_0 : List (Nat × Instr × Nat) := [(0, .iconst 0, 1), (1, .istore_n 3, 1), (2, .iconst 1, 1), (3, .istore 4, 2), (5, .iload 4, 2), (7, .aload_n 0, 1), (8, .getfield 11, 3), (11, .if_icmp .ge 27, 3), (14, .iload_n 3, 1), (15, .lload_n 1, 1), (16, .bipush 8, 2), (18, .iload 4, 2), (20, .imul, 1), (21, .lushr, 1), (22, .lload_n 1, 1), (23, .lxor, 1), (24, .lconst 1, 1), (25, .land, 1), (26, .l2i, 1), (27, .iload 4, 2), (29, .ishl, 1), (30, .ior, 1), (31, .istore_n 3, 1), (32, .iinc 4 1, 3), (35, .goto (-30), 3), (38, .iload_n 3, 1), (39, .ireturn, 1)]
theorem ok_X0_rowsUnlikeFirst_0 : (tb_X0_rowsUnlikeFirst_0.all fun q => decide (decode cX0_rowsUnlikeFirst q.1 = .ok q.2)) = true := rdc_all _ 0 _ rfl (by decide +kernel)
def tb_X0_formOf_0 : List (Nat × Instr × Nat) := [(0, .lload_n 1, 1), (1, .aload_n 0, 1), (2, .aload_n 0, 1), (3, .lload_n 1, 1), (4, .invokevirtual 70, 3), (7, .aload_n 0, 1), (8, .lload_n 1, 1), (9, .invokevirtual 73, 3), (12, .invokevirtual 76, 3), (15, .lxor, 1), (16, .lreturn, 1)]
theorem ok_X0_formOf_0 : (tb_X0_formOf_0.all fun q => decide (decode cX0_formOf q.1 = .ok q.2)) = true := rdc_all _ 0 _ rfl (by decide +kernel)
def tb_X0_rotateBy_0 : List (Nat × Instr × Nat) := [(0, .iload_n 1, 1), (1, .iconst 4, 1), (2, .if_icmp .lt 7, 3), (5, .aload_n 0, 1), (6, .invokevirtual 79, 3), (9, .iconst 0, 1), (10, .istore_n 2, 1), (11, .iload_n 2, 1), (12, .iload_n 1, 1), (13, .iconst 3, 1), (14, .iand, 1), (15, .if_icmp .ge 13, 3), (18, .aload_n 0, 1), (19, .invokevirtual 82, 3), (22, .iinc 2 1, 3), (25, .goto (-14), 3), (28, .return_, 1)]
theorem ok_X0_rotateBy_0 : (tb_X0_rotateBy_0.all fun q => decide (decode cX0_rotateBy q.1 = .ok q.2)) = true := rdc_all _ 0 _ rfl (by decide +kernel)
def tb_X0_mirror_0 : List (Nat × Instr × Nat) := [(0, .lconst 0, 1), (1, .lstore_n 1, 1), (2, .iconst 0, 1), (3, .istore_n 3, 1), (4, .iload_n 3, 1), (5, .aload_n 0, 1), (6, .getfield 11, 3), (9, .if_icmp .ge 53, 3), (12, .iconst 0, 1), (13, .istore 4, 2), (15, .iload 4, 2), (17, .aload_n 0, 1), (18, .getfield 15, 3), (21, .if_icmp .ge 35, 3), (24, .lload_n 1, 1), (25, .aload_n 0, 1), (26, .iload_n 3, 1), (27, .iload 4, 2), (29, .invokevirtual 44, 3), (32, .i2l, 1), (33, .bipush 8, 2), (35, .iload_n 3, 1), (36, .imul, 1), (37, .aload_n 0, 1), (38, .getfield 15, 3), (41, .iadd, 1), (42, .iconst 1, 1), (43, .isub, 1), (44, .iload 4, 2), (46, .isub, 1), (47, .lshl, 1), (48, .lor, 1), (49, .lstore_n 1, 1), (50, .iinc 4 1, 3), (53, .goto (-38), 3), (56, .iinc 3 1, 3), (59, .goto (-55), 3), (62, .aload_n 0, 1), (63, .lload_n 1, 1), (64, .putfield 22, 3)]
theorem ok_X0_mirror_0 : (tb_X0_mirror_0.all fun q => decide (decode cX0_mirror q.1 = .ok q.2)) = true := rdc_all _ 0 _ rfl (by decide +kernel)
def tb_X0_mirror_1 : List (Nat × Instr × Nat) := [(67, .return_, 1)]
theorem ok_X0_mirror_1 : (tb_X0_mirror_1.all fun q => decide (decode cX0_mirror q.1 = .ok q.2)) = true := rdc_all _ 0 _ rfl (by decide +kernel)
def tb_X0_quarterRight_0 : List (Nat × Instr × Nat) := [(0, .lconst 0, 1), (1, .lstore_n 1, 1), (2, .iconst 0, 1), (3, .istore_n 3, 1), (4, .iload_n 3, 1), (5, .aload_n 0, 1), (6, .getfield 11, 3), (9, .if_icmp .ge 53, 3), (12, .iconst 0, 1), (13, .istore 4, 2), (15, .iload 4, 2), (17, .aload_n 0, 1), (18, .getfield 15, 3), (21, .if_icmp .ge 35, 3), (24, .lload_n 1, 1), (25, .aload_n 0, 1), (26, .iload_n 3, 1), (27, .iload 4, 2), (29, .invokevirtual 44, 3), (32, .i2l, 1), (33, .bipush 8, 2), (35, .iload 4, 2), (37, .imul, 1), (38, .aload_n 0, 1), (39, .getfield 11, 3), (42, .iadd, 1), (43, .iconst 1, 1), (44, .isub, 1), (45, .iload_n 3, 1), (46, .isub, 1), (47, .lshl, 1), (48, .lor, 1), (49, .lstore_n 1, 1), (50, .iinc 4 1, 3), (53, .goto (-38), 3), (56, .iinc 3 1, 3), (59, .goto (-55), 3), (62, .aload_n 0, 1), (63, .getfield 11, 3), (66, .istore_n 3, 1)]
theorem ok_X0_quarterRight_0 : (tb_X0_quarterRight_0.all fun q => decide (decode cX0_quarterRight q.1 = .ok q.2)) = true := rdc_all _ 0 _ rfl (by decide +kernel)
def tb_X0_quarterRight_1 : List (Nat × Instr × Nat) := [(67, .aload_n 0, 1), (68, .aload_n 0, 1), (69, .getfield 15, 3), (72, .putfield 11, 3), (75, .aload_n 0, 1), (76, .iload_n 3, 1), (77, .putfield 15, 3), (80, .aload_n 0, 1), (81, .lload_n 1, 1), (82, .putfield 22, 3), (85, .return_, 1)]
theorem ok_X0_quarterRight_1 : (tb_X0_quarterRight_1.all fun q => decide (decode cX0_quarterRight q.1 = .ok q.2)) = true := rdc_all _ 0 _ rfl (by decide +kernel)
def tb_X1_init_0 : List (Nat × Instr × Nat) := [(0, .aload_n 0, 1), (1, .invokespecial 1, 3), (4, .aload_n 0, 1), (5, .bipush 12, 2), (7, .newarray .int, 2), (9, .putfield 9, 3), (12, .aload_n 0, 1), (13, .bipush 36, 2), (15, .newarray .int, 2), (17, .putfield 13, 3), (20, .return_, 1)]
theorem ok_X1_init_0 : (tb_X1_init_0.all fun q => decide (decode cX1_init q.1 = .ok q.2)) = true := rdc_all _ 0 _ rfl (by decide +kernel)
def tb_X1_clear_0 : List (Nat × Instr × Nat) := [(0, .aload_n 0, 1), (1, .iconst 0, 1), (2, .putfield 16, 3), (5, .return_, 1)]
theorem ok_X1_clear_0 : (tb_X1_clear_0.all fun q => decide (decode cX1_clear q.1 = .ok q.2)) = true := rdc_all _ 0 _ rfl (by decide +kernel)
def tb_X1_become_0 : List (Nat × Instr × Nat) := [(0, .aload_n 0, 1), (1, .aload_n 1, 1), (2, .getfield 16, 3), (5, .putfield 16, 3), (8, .iconst 0, 1), (9, .istore_n 2, 1), (10, .iload_n 2, 1), (11, .aload_n 0, 1), (12, .getfield 9, 3), (15, .arraylength, 1), (16, .if_icmp .ge 30, 3), (19, .iload_n 2, 1), (20, .aload_n 1, 1), (21, .getfield 9, 3), (24, .arraylength, 1), (25, .if_icmp .ge 21, 3), (28, .aload_n 0, 1), (29, .getfield 9, 3), (32, .iload_n 2, 1), (33, .aload_n 1, 1), (34, .getfield 9, 3), (37, .iload_n 2, 1), (38, .iaload, 1), (39, .iastore, 1), (40, .iinc 2 1, 3), (43, .goto (-33), 3), (46, .iconst 0, 1), (47, .istore_n 2, 1), (48, .iload_n 2, 1), (49, .aload_n 0, 1), (50, .getfield 13, 3), (53, .arraylength, 1), (54, .if_icmp .ge 30, 3), (57, .iload_n 2, 1), (58, .aload_n 1, 1), (59, .getfield 13, 3), (62, .arraylength, 1), (63, .if_icmp .ge 21, 3), (66, .aload_n 0, 1), (67, .getfield 13, 3)]
theorem ok_X1_become_0 : (tb_X1_become_0.all fun q => decide (decode cX1_become q.1 = .ok q.2)) = true := rdc_all _ 0 _ rfl (by decide +kernel)
def tb_X1_become_1 : List (Nat × Instr × Nat) := [(70, .iload_n 2, 1), (71, .aload_n 1, 1), (72, .getfield 13, 3), (75, .iload_n 2, 1), (76, .iaload, 1), (77, .iastore, 1), (78, .iinc 2 1, 3), (81, .goto (-33), 3), (84, .return_, 1)]
theorem ok_X1_become_1 : (tb_X1_become_1.all fun q => decide (decode cX1_become q.1 = .ok q.2)) = true := rdc_all _ 0 _ rfl (by decide +kernel)
def tb_X1_begin_0 : List (Nat × Instr × Nat) := [(0, .aload_n 0, 1), (1, .getfield 16, 3), (4, .ifCond .lt 35, 3), (7, .aload_n 0, 1), (8, .getfield 16, 3), (11, .aload_n 0, 1), (12, .getfield 9, 3), (15, .arraylength, 1), (16, .if_icmp .ge 23, 3), (19, .aload_n 0, 1), (20, .getfield 9, 3), (23, .aload_n 0, 1), (24, .getfield 16, 3), (27, .iconst 0, 1), (28, .iastore, 1), (29, .aload_n 0, 1), (30, .dup, 1), (31, .getfield 16, 3), (34, .iconst 1, 1), (35, .iadd, 1), (36, .putfield 16, 3), (39, .return_, 1)]
theorem ok_X1_begin_0 : (tb_X1_begin_0.all fun q => decide (decode cX1_begin q.1 = .ok q.2)) = true := rdc_all _ 0 _ rfl (by decide +kernel)
def tb_X1_add_0 : List (Nat × Instr × Nat) := [(0, .aload_n 0, 1), (1, .getfield 16, 3), (4, .iconst 1, 1), (5, .isub, 1), (6, .istore_n 3, 1), (7, .iconst 3, 1), (8, .iload_n 3, 1), (9, .imul, 1), (10, .aload_n 0, 1), (11, .iload_n 3, 1), (12, .invokevirtual 20, 3), (15, .iadd, 1), (16, .istore 4, 2), (18, .iload_n 3, 1), (19, .ifCond .lt 50, 3), (22, .iload_n 3, 1), (23, .aload_n 0, 1), (24, .getfield 9, 3), (27, .arraylength, 1), (28, .if_icmp .ge 41, 3), (31, .iload 4, 2), (33, .ifCond .lt 36, 3), (36, .iload 4, 2), (38, .aload_n 0, 1), (39, .getfield 13, 3), (42, .arraylength, 1), (43, .if_icmp .ge 26, 3), (46, .aload_n 0, 1), (47, .getfield 13, 3), (50, .iload 4, 2), (52, .bipush 20, 2), (54, .iload_n 1, 1), (55, .imul, 1), (56, .iload_n 2, 1), (57, .iadd, 1), (58, .iastore, 1), (59, .aload_n 0, 1), (60, .getfield 9, 3), (63, .iload_n 3, 1), (64, .dup2, 1)]
theorem ok_X1_add_0 : (tb_X1_add_0.all fun q => decide (decode cX1_add q.1 = .ok q.2)) = true := rdc_all _ 0 _ rfl (by decide +kernel)
def tb_X1_add_1 : List (Nat × Instr × Nat) := [(65, .iaload, 1), (66, .iconst 1, 1), (67, .iadd, 1), (68, .iastore, 1), (69, .return_, 1)]
theorem ok_X1_add_1 : (tb_X1_add_1.all fun q => decide (decode cX1_add q.1 = .ok q.2)) = true := rdc_all _ 0 _ rfl (by decide +kernel)
def tb_X1_actsOf_0 : List (Nat × Instr × Nat) := [(0, .iload_n 1, 1), (1, .ifCond .lt 29, 3), (4, .iload_n 1, 1), (5, .aload_n 0, 1), (6, .getfield 16, 3), (9, .if_icmp .ge 21, 3), (12, .iload_n 1, 1), (13, .aload_n 0, 1), (14, .getfield 9, 3), (17, .arraylength, 1), (18, .if_icmp .ge 12, 3), (21, .aload_n 0, 1), (22, .getfield 9, 3), (25, .iload_n 1, 1), (26, .iaload, 1), (27, .goto 4, 3), (30, .iconst 0, 1), (31, .ireturn, 1)]
theorem ok_X1_actsOf_0 : (tb_X1_actsOf_0.all fun q => decide (decode cX1_actsOf q.1 = .ok q.2)) = true := rdc_all _ 0 _ rfl (by decide +kernel)
def tb_X1_codeOf_0 : List (Nat × Instr × Nat) := [(0, .iconst 3, 1), (1, .iload_n 1, 1), (2, .imul, 1), (3, .iload_n 2, 1), (4, .iadd, 1), (5, .istore_n 3, 1), (6, .iload_n 2, 1), (7, .ifCond .lt 34, 3), (10, .iload_n 2, 1), (11, .aload_n 0, 1), (12, .iload_n 1, 1), (13, .invokevirtual 20, 3), (16, .if_icmp .ge 25, 3), (19, .iload_n 3, 1), (20, .ifCond .lt 21, 3), (23, .iload_n 3, 1), (24, .aload_n 0, 1), (25, .getfield 13, 3), (28, .arraylength, 1), (29, .if_icmp .ge 12, 3), (32, .aload_n 0, 1), (33, .getfield 13, 3), (36, .iload_n 3, 1), (37, .iaload, 1), (38, .goto 4, 3), (41, .iconst 0, 1), (42, .ireturn, 1)]
theorem ok_X1_codeOf_0 : (tb_X1_codeOf_0.all fun q => decide (decode cX1_codeOf q.1 = .ok q.2)) = true := rdc_all _ 0 _ rfl (by decide +kernel)
def tb_X1_kindOf_0 : List (Nat × Instr × Nat) := [(0, .aload_n 0, 1), (1, .iload_n 1, 1), (2, .iload_n 2, 1), (3, .invokevirtual 24, 3), (6, .bipush 20, 2), (8, .idiv, 1), (9, .ireturn, 1)]
theorem ok_X1_kindOf_0 : (tb_X1_kindOf_0.all fun q => decide (decode cX1_kindOf q.1 = .ok q.2)) = true := rdc_all _ 0 _ rfl (by decide +kernel)
def tb_X1_numberOf_0 : List (Nat × Instr × Nat) := [(0, .aload_n 0, 1), (1, .iload_n 1, 1), (2, .iload_n 2, 1), (3, .invokevirtual 24, 3), (6, .bipush 20, 2), (8, .irem, 1), (9, .ireturn, 1)]
theorem ok_X1_numberOf_0 : (tb_X1_numberOf_0.all fun q => decide (decode cX1_numberOf q.1 = .ok q.2)) = true := rdc_all _ 0 _ rfl (by decide +kernel)
def tb_X2_init_0 : List (Nat × Instr × Nat) := [(0, .aload_n 0, 1), (1, .invokespecial 3, 3), (4, .return_, 1)]
theorem ok_X2_init_0 : (tb_X2_init_0.all fun q => decide (decode cX2_init q.1 = .ok q.2)) = true := rdc_all _ 0 _ rfl (by decide +kernel)
def tb_X2_find_0 : List (Nat × Instr × Nat) := [(0, .iconst 0, 1), (1, .istore_n 3, 1), (2, .iconst 0, 1), (3, .istore 4, 2), (5, .iload 4, 2), (7, .bipush 8, 2), (9, .if_icmp .ge 85, 3), (12, .aload_n 2, 1), (13, .aload_n 1, 1), (14, .invokevirtual 9, 3), (17, .aload_n 2, 1), (18, .iload 4, 2), (20, .invokevirtual 15, 3), (23, .aload_n 2, 1), (24, .aload_n 2, 1), (25, .getfield 19, 3), (28, .invokevirtual 23, 3), (31, .lstore 5, 2), (33, .aload_n 2, 1), (34, .getfield 27, 3), (37, .aload_n 2, 1), (38, .getfield 31, 3), (41, .if_icmp .gt 47, 3), (44, .iload_n 3, 1), (45, .ifCond .eq 13, 3), (48, .lload 5, 2), (50, .aload_n 0, 1), (51, .getfield 34, 3), (54, .lcmp, 1), (55, .ifCond .ge 33, 3), (58, .iconst 1, 1), (59, .istore_n 3, 1), (60, .aload_n 0, 1), (61, .lload 5, 2), (63, .putfield 34, 3), (66, .aload_n 0, 1), (67, .iload 4, 2), (69, .putfield 39, 3), (72, .aload_n 0, 1), (73, .aload_n 2, 1)]
theorem ok_X2_find_0 : (tb_X2_find_0.all fun q => decide (decode cX2_find q.1 = .ok q.2)) = true := rdc_all _ 0 _ rfl (by decide +kernel)
def tb_X2_find_1 : List (Nat × Instr × Nat) := [(74, .getfield 27, 3), (77, .putfield 42, 3), (80, .aload_n 0, 1), (81, .aload_n 2, 1), (82, .getfield 31, 3), (85, .putfield 43, 3), (88, .iinc 4 1, 3), (91, .goto (-86), 3), (94, .return_, 1)]
theorem ok_X2_find_1 : (tb_X2_find_1.all fun q => decide (decode cX2_find q.1 = .ok q.2)) = true := rdc_all _ 0 _ rfl (by decide +kernel)
def tb_X2_sameAs_0 : List (Nat × Instr × Nat) := [(0, .aload_n 0, 1), (1, .getfield 42, 3), (4, .aload_n 1, 1), (5, .getfield 42, 3), (8, .if_icmp .ne 30, 3), (11, .aload_n 0, 1), (12, .getfield 43, 3), (15, .aload_n 1, 1), (16, .getfield 43, 3), (19, .if_icmp .ne 19, 3), (22, .aload_n 0, 1), (23, .getfield 34, 3), (26, .aload_n 1, 1), (27, .getfield 34, 3), (30, .lcmp, 1), (31, .ifCond .ne 7, 3), (34, .iconst 1, 1), (35, .goto 4, 3), (38, .iconst 0, 1), (39, .ireturn, 1)]
theorem ok_X2_sameAs_0 : (tb_X2_sameAs_0.all fun q => decide (decode cX2_sameAs q.1 = .ok q.2)) = true := rdc_all _ 0 _ rfl (by decide +kernel)
def tb_X3_init_0 : List (Nat × Instr × Nat) := [(0, .aload_n 0, 1), (1, .invokespecial 3, 3), (4, .aload_n 0, 1), (5, .iconst (-1), 1), (6, .putfield 9, 3), (9, .aload_n 0, 1), (10, .bipush 40, 2), (12, .newarray .int, 2), (14, .putfield 15, 3), (17, .return_, 1)]
theorem ok_X3_init_0 : (tb_X3_init_0.all fun q => decide (decode cX3_init q.1 = .ok q.2)) = true := rdc_all _ 0 _ rfl (by decide +kernel)
def tb_X3_isNothing_0 : List (Nat × Instr × Nat) := [(0, .aload_n 0, 1), (1, .getfield 9, 3), (4, .ifCond .ge 7, 3), (7, .iconst 1, 1), (8, .goto 4, 3), (11, .iconst 0, 1), (12, .ireturn, 1)]
theorem ok_X3_isNothing_0 : (tb_X3_isNothing_0.all fun q => decide (decode cX3_isNothing q.1 = .ok q.2)) = true := rdc_all _ 0 _ rfl (by decide +kernel)
def tb_X3_renew_0 : List (Nat × Instr × Nat) := [(0, .aload_n 0, 1), (1, .iload_n 1, 1), (2, .putfield 19, 3), (5, .aload_n 0, 1), (6, .iload_n 2, 1), (7, .putfield 9, 3), (10, .iconst 0, 1), (11, .istore_n 3, 1), (12, .iload_n 3, 1), (13, .aload_n 0, 1), (14, .getfield 15, 3), (17, .arraylength, 1), (18, .if_icmp .ge 16, 3), (21, .aload_n 0, 1), (22, .getfield 15, 3), (25, .iload_n 3, 1), (26, .iconst 0, 1), (27, .iastore, 1), (28, .iinc 3 1, 3), (31, .goto (-19), 3), (34, .return_, 1)]
theorem ok_X3_renew_0 : (tb_X3_renew_0.all fun q => decide (decode cX3_renew q.1 = .ok q.2)) = true := rdc_all _ 0 _ rfl (by decide +kernel)
def tb_X3_put_0 : List (Nat × Instr × Nat) := [(0, .iload_n 1, 1), (1, .ifCond .lt 20, 3), (4, .iload_n 1, 1), (5, .aload_n 0, 1), (6, .getfield 9, 3), (9, .if_icmp .ge 12, 3), (12, .iload_n 1, 1), (13, .aload_n 0, 1), (14, .getfield 15, 3), (17, .arraylength, 1), (18, .if_icmp .lt 5, 3), (21, .iconst 0, 1), (22, .ireturn, 1), (23, .aload_n 0, 1), (24, .getfield 19, 3), (27, .ifCond .ne 14, 3), (30, .aload_n 0, 1), (31, .getfield 15, 3), (34, .iload_n 1, 1), (35, .iload_n 2, 1), (36, .i2b, 1), (37, .iastore, 1), (38, .goto 23, 3), (41, .aload_n 0, 1), (42, .getfield 15, 3), (45, .iload_n 1, 1), (46, .aload_n 0, 1), (47, .getfield 19, 3), (50, .iconst 1, 1), (51, .if_icmp .ne 8, 3), (54, .iload_n 2, 1), (55, .i2s, 1), (56, .goto 4, 3), (59, .iload_n 2, 1), (60, .iastore, 1), (61, .iconst 1, 1), (62, .ireturn, 1)]
theorem ok_X3_put_0 : (tb_X3_put_0.all fun q => decide (decode cX3_put q.1 = .ok q.2)) = true := rdc_all _ 0 _ rfl (by decide +kernel)
def tb_X3_cell_0 : List (Nat × Instr × Nat) := [(0, .iload_n 1, 1), (1, .ifCond .lt 29, 3), (4, .iload_n 1, 1), (5, .aload_n 0, 1), (6, .getfield 9, 3), (9, .if_icmp .ge 21, 3), (12, .iload_n 1, 1), (13, .aload_n 0, 1), (14, .getfield 15, 3), (17, .arraylength, 1), (18, .if_icmp .ge 12, 3), (21, .aload_n 0, 1), (22, .getfield 15, 3), (25, .iload_n 1, 1), (26, .iaload, 1), (27, .goto 4, 3), (30, .iconst 0, 1), (31, .ireturn, 1)]
theorem ok_X3_cell_0 : (tb_X3_cell_0.all fun q => decide (decode cX3_cell q.1 = .ok q.2)) = true := rdc_all _ 0 _ rfl (by decide +kernel)
def tb_X3_faultOfLane_0 : List (Nat × Instr × Nat) := [(0, .aload_n 0, 1), (1, .invokevirtual 22, 3), (4, .ifCond .eq 5, 3), (7, .iconst 1, 1), (8, .ireturn, 1), (9, .aload_n 0, 1), (10, .getfield 19, 3), (13, .iload_n 1, 1), (14, .if_icmp .ne 7, 3), (17, .iconst 0, 1), (18, .goto 4, 3), (21, .iconst 3, 1), (22, .ireturn, 1)]
theorem ok_X3_faultOfLane_0 : (tb_X3_faultOfLane_0.all fun q => decide (decode cX3_faultOfLane q.1 = .ok q.2)) = true := rdc_all _ 0 _ rfl (by decide +kernel)
def tb_X3_pairsFrom_0 : List (Nat × Instr × Nat) := [(0, .iload_n 1, 1), (1, .ifCond .lt 22, 3), (4, .iload_n 1, 1), (5, .aload_n 0, 1), (6, .getfield 9, 3), (9, .if_icmp .ge 14, 3), (12, .aload_n 0, 1), (13, .getfield 9, 3), (16, .iload_n 1, 1), (17, .isub, 1), (18, .iconst 2, 1), (19, .idiv, 1), (20, .goto 4, 3), (23, .iconst 0, 1), (24, .ireturn, 1)]
theorem ok_X3_pairsFrom_0 : (tb_X3_pairsFrom_0.all fun q => decide (decode cX3_pairsFrom q.1 = .ok q.2)) = true := rdc_all _ 0 _ rfl (by decide +kernel)
def tb_X4_init_0 : List (Nat × Instr × Nat) := [(0, .aload_n 0, 1), (1, .invokespecial 3, 3), (4, .aload_n 0, 1), (5, .iconst 4, 1), (6, .anewarray 9, 3), (9, .putfield 11, 3), (12, .iconst 0, 1), (13, .istore_n 1, 1), (14, .iload_n 1, 1), (15, .aload_n 0, 1), (16, .getfield 11, 3), (19, .arraylength, 1), (20, .if_icmp .ge 22, 3), (23, .aload_n 0, 1), (24, .getfield 11, 3), (27, .iload_n 1, 1), (28, .new 9, 3), (31, .dup, 1), (32, .invokespecial 17, 3), (35, .aastore, 1), (36, .iinc 1 1, 3), (39, .goto (-25), 3), (42, .return_, 1)]
theorem ok_X4_init_0 : (tb_X4_init_0.all fun q => decide (decode cX4_init q.1 = .ok q.2)) = true := rdc_all _ 0 _ rfl (by decide +kernel)
def tb_X4_at_0 : List (Nat × Instr × Nat) := [(0, .iload_n 1, 1), (1, .ifCond .lt 21, 3), (4, .iload_n 1, 1), (5, .aload_n 0, 1), (6, .getfield 11, 3), (9, .arraylength, 1), (10, .if_icmp .ge 12, 3), (13, .aload_n 0, 1), (14, .getfield 11, 3), (17, .iload_n 1, 1), (18, .aaload, 1), (19, .goto 4, 3), (22, .aconst_null, 1), (23, .areturn, 1)]
theorem ok_X4_at_0 : (tb_X4_at_0.all fun q => decide (decode cX4_at q.1 = .ok q.2)) = true := rdc_all _ 0 _ rfl (by decide +kernel)
def tb_X4_cellsOf_0 : List (Nat × Instr × Nat) := [(0, .aload_n 0, 1), (1, .iload_n 1, 1), (2, .invokevirtual 18, 3), (5, .astore_n 2, 1), (6, .aload_n 2, 1), (7, .ifnull 10, 3), (10, .aload_n 2, 1), (11, .invokevirtual 22, 3), (14, .ifCond .eq 8, 3), (17, .bipush (-4), 2), (19, .goto 7, 3), (22, .aload_n 2, 1), (23, .getfield 26, 3), (26, .ireturn, 1)]
theorem ok_X4_cellsOf_0 : (tb_X4_cellsOf_0.all fun q => decide (decode cX4_cellsOf q.1 = .ok q.2)) = true := rdc_all _ 0 _ rfl (by decide +kernel)
def tb_X5_init_0 : List (Nat × Instr × Nat) := [(0, .aload_n 0, 1), (1, .invokespecial 1, 3), (4, .aload_n 0, 1), (5, .sipush 320, 3), (8, .newarray .byte, 2), (10, .putfield 9, 3), (13, .return_, 1)]
theorem ok_X5_init_0 : (tb_X5_init_0.all fun q => decide (decode cX5_init q.1 = .ok q.2)) = true := rdc_all _ 0 _ rfl (by decide +kernel)
def tb_X5_add_0 : List (Nat × Instr × Nat) := [(0, .aload_n 0, 1), (1, .getfield 13, 3), (4, .ifCond .lt 13, 3), (7, .aload_n 0, 1), (8, .getfield 13, 3), (11, .sipush 312, 3), (14, .if_icmp .le 5, 3), (17, .iconst 0, 1), (18, .ireturn, 1), (19, .iconst 0, 1), (20, .istore_n 3, 1), (21, .iload_n 3, 1), (22, .bipush 8, 2), (24, .if_icmp .ge 50, 3), (27, .aload_n 0, 1), (28, .getfield 13, 3), (31, .iload_n 3, 1), (32, .iadd, 1), (33, .istore 4, 2), (35, .iload 4, 2), (37, .ifCond .lt 31, 3), (40, .iload 4, 2), (42, .aload_n 0, 1), (43, .getfield 9, 3), (46, .arraylength, 1), (47, .if_icmp .ge 21, 3), (50, .aload_n 0, 1), (51, .getfield 9, 3), (54, .iload 4, 2), (56, .lload_n 1, 1), (57, .bipush 56, 2), (59, .bipush 8, 2), (61, .iload_n 3, 1), (62, .imul, 1), (63, .isub, 1), (64, .lshr, 1), (65, .l2i, 1), (66, .i2b, 1), (67, .bastore, 1), (68, .iinc 3 1, 3)]
theorem ok_X5_add_0 : (tb_X5_add_0.all fun q => decide (decode cX5_add q.1 = .ok q.2)) = true := rdc_all _ 0 _ rfl (by decide +kernel)
def tb_X5_add_1 : List (Nat × Instr × Nat) := [(71, .goto (-50), 3), (74, .aload_n 0, 1), (75, .dup, 1), (76, .getfield 13, 3), (79, .bipush 8, 2), (81, .iadd, 1), (82, .putfield 13, 3), (85, .iconst 1, 1), (86, .ireturn, 1)]
theorem ok_X5_add_1 : (tb_X5_add_1.all fun q => decide (decode cX5_add q.1 = .ok q.2)) = true := rdc_all _ 0 _ rfl (by decide +kernel)
def tb_X5_byteAt_0 : List (Nat × Instr × Nat) := [(0, .iload_n 1, 1), (1, .ifCond .lt 29, 3), (4, .iload_n 1, 1), (5, .aload_n 0, 1), (6, .getfield 13, 3), (9, .if_icmp .ge 21, 3), (12, .iload_n 1, 1), (13, .aload_n 0, 1), (14, .getfield 9, 3), (17, .arraylength, 1), (18, .if_icmp .ge 12, 3), (21, .aload_n 0, 1), (22, .getfield 9, 3), (25, .iload_n 1, 1), (26, .baload, 1), (27, .goto 4, 3), (30, .iconst 0, 1), (31, .ireturn, 1)]
theorem ok_X5_byteAt_0 : (tb_X5_byteAt_0.all fun q => decide (decode cX5_byteAt q.1 = .ok q.2)) = true := rdc_all _ 0 _ rfl (by decide +kernel)
def tb_X6_init_0 : List (Nat × Instr × Nat) := [(0, .aload_n 0, 1), (1, .invokespecial 3, 3), (4, .aload_n 0, 1), (5, .new 9, 3), (8, .dup, 1), (9, .iconst 0, 1), (10, .invokespecial 11, 3), (13, .putfield 14, 3), (16, .aload_n 0, 1), (17, .new 9, 3), (20, .dup, 1), (21, .iconst 0, 1), (22, .invokespecial 11, 3), (25, .putfield 20, 3), (28, .aload_n 0, 1), (29, .new 23, 3), (32, .dup, 1), (33, .invokespecial 25, 3), (36, .putfield 26, 3), (39, .aload_n 0, 1), (40, .aload_n 1, 1), (41, .putfield 30, 3), (44, .return_, 1)]
theorem ok_X6_init_0 : (tb_X6_init_0.all fun q => decide (decode cX6_init q.1 = .ok q.2)) = true := rdc_all _ 0 _ rfl (by decide +kernel)
def tb_X6_takeText_0 : List (Nat × Instr × Nat) := [(0, .aload_n 0, 1), (1, .getfield 14, 3), (4, .invokevirtual 34, 3), (7, .aload_n 0, 1), (8, .getfield 20, 3), (11, .invokevirtual 34, 3), (14, .aload_n 0, 1), (15, .getfield 26, 3), (18, .invokevirtual 37, 3), (21, .aload_n 0, 1), (22, .iconst 0, 1), (23, .putfield 40, 3), (26, .aload_n 0, 1), (27, .iconst 0, 1), (28, .putfield 44, 3), (31, .aload_n 0, 1), (32, .iconst 0, 1), (33, .putfield 47, 3), (36, .iconst 0, 1), (37, .istore_n 1, 1), (38, .iload_n 1, 1), (39, .sipush 320, 3), (42, .if_icmp .ge 16, 3), (45, .aload_n 0, 1), (46, .invokevirtual 52, 3), (49, .ifCond .eq 9, 3), (52, .iinc 1 1, 3), (55, .goto (-17), 3), (58, .aload_n 0, 1), (59, .getfield 40, 3), (62, .ifCond .ne 7, 3), (65, .aload_n 0, 1), (66, .invokevirtual 56, 3), (69, .aload_n 0, 1), (70, .getfield 40, 3), (73, .ifCond .ne 7, 3), (76, .iload_n 1, 1), (77, .goto 10, 3), (80, .bipush (-10), 2), (82, .aload_n 0, 1)]
theorem ok_X6_takeText_0 : (tb_X6_takeText_0.all fun q => decide (decode cX6_takeText q.1 = .ok q.2)) = true := rdc_all _ 0 _ rfl (by decide +kernel)
def tb_X6_takeText_1 : List (Nat × Instr × Nat) := [(83, .getfield 44, 3), (86, .isub, 1), (87, .ireturn, 1)]
theorem ok_X6_takeText_1 : (tb_X6_takeText_1.all fun q => decide (decode cX6_takeText q.1 = .ok q.2)) = true := rdc_all _ 0 _ rfl (by decide +kernel)
def tb_X6_refuse_0 : List (Nat × Instr × Nat) := [(0, .aload_n 0, 1), (1, .getfield 40, 3), (4, .ifCond .ne 16, 3), (7, .aload_n 0, 1), (8, .iload_n 1, 1), (9, .putfield 40, 3), (12, .aload_n 0, 1), (13, .aload_n 0, 1), (14, .getfield 59, 3), (17, .putfield 44, 3), (20, .iconst 0, 1), (21, .ireturn, 1)]
theorem ok_X6_refuse_0 : (tb_X6_refuse_0.all fun q => decide (decode cX6_refuse q.1 = .ok q.2)) = true := rdc_all _ 0 _ rfl (by decide +kernel)
def tb_X6_takeLine_0 : List (Nat × Instr × Nat) := [(0, .aload_n 0, 1), (1, .invokevirtual 62, 3), (4, .aload_n 0, 1), (5, .getfield 65, 3), (8, .ifCond .ne 5, 3), (11, .iconst 0, 1), (12, .ireturn, 1), (13, .aload_n 0, 1), (14, .ldc 68, 2), (16, .invokevirtual 70, 3), (19, .ifCond .eq 12, 3), (22, .aload_n 0, 1), (23, .aload_n 0, 1), (24, .getfield 14, 3), (27, .invokevirtual 74, 3), (30, .ireturn, 1), (31, .aload_n 0, 1), (32, .ldc 78, 2), (34, .invokevirtual 70, 3), (37, .ifCond .eq 12, 3), (40, .aload_n 0, 1), (41, .aload_n 0, 1), (42, .getfield 20, 3), (45, .invokevirtual 74, 3), (48, .ireturn, 1), (49, .aload_n 0, 1), (50, .ldc 80, 2), (52, .invokevirtual 70, 3), (55, .ifCond .eq 10, 3), (58, .aload_n 0, 1), (59, .invokevirtual 82, 3), (62, .goto 8, 3), (65, .aload_n 0, 1), (66, .iconst 2, 1), (67, .invokevirtual 85, 3), (70, .ireturn, 1)]
theorem ok_X6_takeLine_0 : (tb_X6_takeLine_0.all fun q => decide (decode cX6_takeLine q.1 = .ok q.2)) = true := rdc_all _ 0 _ rfl (by decide +kernel)
def tb_X6_takeRows_0 : List (Nat × Instr × Nat) := [(0, .aload_n 1, 1), (1, .getfield 89, 3), (4, .ifCond .eq 9, 3), (7, .aload_n 0, 1), (8, .iconst 4, 1), (9, .invokevirtual 85, 3), (12, .ireturn, 1), (13, .aload_n 1, 1), (14, .iconst 1, 1), (15, .putfield 89, 3), (18, .aload_n 1, 1), (19, .iconst 0, 1), (20, .putfield 93, 3), (23, .iconst 0, 1), (24, .istore_n 2, 1), (25, .iload_n 2, 1), (26, .bipush 8, 2), (28, .if_icmp .gt 40, 3), (31, .aload_n 0, 1), (32, .invokevirtual 62, 3), (35, .aload_n 1, 1), (36, .getfield 93, 3), (39, .ifCond .le 13, 3), (42, .aload_n 0, 1), (43, .getfield 65, 3), (46, .iconst 3, 1), (47, .if_icmp .ne 5, 3), (50, .iconst 1, 1), (51, .ireturn, 1), (52, .aload_n 0, 1), (53, .aload_n 1, 1), (54, .invokevirtual 96, 3), (57, .ifCond .ne 5, 3), (60, .iconst 0, 1), (61, .ireturn, 1), (62, .iinc 2 1, 3), (65, .goto (-40), 3), (68, .iconst 0, 1), (69, .ireturn, 1)]
theorem ok_X6_takeRows_0 : (tb_X6_takeRows_0.all fun q => decide (decode cX6_takeRows q.1 = .ok q.2)) = true := rdc_all _ 0 _ rfl (by decide +kernel)
def tb_X6_takeRow_0 : List (Nat × Instr × Nat) := [(0, .aload_n 0, 1), (1, .invokevirtual 99, 3), (4, .ifCond .ne 9, 3), (7, .aload_n 0, 1), (8, .iconst 2, 1), (9, .invokevirtual 85, 3), (12, .ireturn, 1), (13, .aload_n 0, 1), (14, .getfield 47, 3), (17, .aload_n 0, 1), (18, .getfield 59, 3), (21, .isub, 1), (22, .istore_n 2, 1), (23, .iload_n 2, 1), (24, .bipush 8, 2), (26, .if_icmp .gt 18, 3), (29, .aload_n 1, 1), (30, .getfield 93, 3), (33, .ifCond .le 17, 3), (36, .iload_n 2, 1), (37, .aload_n 1, 1), (38, .getfield 102, 3), (41, .if_icmp .eq 9, 3), (44, .aload_n 0, 1), (45, .iconst 3, 1), (46, .invokevirtual 85, 3), (49, .ireturn, 1), (50, .aload_n 1, 1), (51, .getfield 93, 3), (54, .bipush 8, 2), (56, .if_icmp .lt 9, 3), (59, .aload_n 0, 1), (60, .iconst 5, 1), (61, .invokevirtual 85, 3), (64, .ireturn, 1), (65, .aload_n 1, 1), (66, .iload_n 2, 1), (67, .putfield 102, 3), (70, .iconst 0, 1), (71, .istore_n 3, 1)]
theorem ok_X6_takeRow_0 : (tb_X6_takeRow_0.all fun q => decide (decode cX6_takeRow q.1 = .ok q.2)) = true := rdc_all _ 0 _ rfl (by decide +kernel)
def tb_X6_takeRow_1 : List (Nat × Instr × Nat) := [(72, .iload_n 3, 1), (73, .iload_n 2, 1), (74, .if_icmp .ge 47, 3), (77, .aload_n 0, 1), (78, .getfield 30, 3), (81, .aload_n 0, 1), (82, .getfield 59, 3), (85, .iload_n 3, 1), (86, .iadd, 1), (87, .invokevirtual 105, 3), (90, .bipush 100, 2), (92, .if_icmp .ne 23, 3), (95, .aload_n 1, 1), (96, .dup, 1), (97, .getfield 109, 3), (100, .lconst 1, 1), (101, .bipush 8, 2), (103, .aload_n 1, 1), (104, .getfield 93, 3), (107, .imul, 1), (108, .iload_n 3, 1), (109, .iadd, 1), (110, .lshl, 1), (111, .lor, 1), (112, .putfield 109, 3), (115, .iinc 3 1, 3), (118, .goto (-46), 3), (121, .aload_n 1, 1), (122, .dup, 1), (123, .getfield 93, 3), (126, .iconst 1, 1), (127, .iadd, 1), (128, .putfield 93, 3), (131, .iconst 1, 1), (132, .ireturn, 1)]
theorem ok_X6_takeRow_1 : (tb_X6_takeRow_1.all fun q => decide (decode cX6_takeRow q.1 = .ok q.2)) = true := rdc_all _ 0 _ rfl (by decide +kernel)
def tb_X6_takeDay_0 : List (Nat × Instr × Nat) := [(0, .aload_n 0, 1), (1, .getfield 26, 3), (4, .getfield 113, 3), (7, .bipush 12, 2), (9, .if_icmp .lt 9, 3), (12, .aload_n 0, 1), (13, .iconst 5, 1), (14, .invokevirtual 85, 3), (17, .ireturn, 1), (18, .aload_n 0, 1), (19, .getfield 26, 3), (22, .invokevirtual 116, 3), (25, .iconst 0, 1), (26, .istore_n 1, 1), (27, .iload_n 1, 1), (28, .iconst 3, 1), (29, .if_icmp .gt 67, 3), (32, .aload_n 0, 1), (33, .invokevirtual 62, 3), (36, .iload_n 1, 1), (37, .ifCond .le 13, 3), (40, .aload_n 0, 1), (41, .getfield 65, 3), (44, .iconst 3, 1), (45, .if_icmp .ne 5, 3), (48, .iconst 1, 1), (49, .ireturn, 1), (50, .aload_n 0, 1), (51, .invokevirtual 119, 3), (54, .istore_n 2, 1), (55, .iload_n 2, 1), (56, .ifCond .ge 9, 3), (59, .aload_n 0, 1), (60, .iconst 2, 1), (61, .invokevirtual 85, 3), (64, .ireturn, 1), (65, .iload_n 1, 1), (66, .iconst 3, 1), (67, .if_icmp .lt 9, 3), (70, .aload_n 0, 1)]
theorem ok_X6_takeDay_0 : (tb_X6_takeDay_0.all fun q => decide (decode cX6_takeDay q.1 = .ok q.2)) = true := rdc_all _ 0 _ rfl (by decide +kernel)
def tb_X6_takeDay_1 : List (Nat × Instr × Nat) := [(71, .iconst 5, 1), (72, .invokevirtual 85, 3), (75, .ireturn, 1), (76, .aload_n 0, 1), (77, .invokevirtual 62, 3), (80, .aload_n 0, 1), (81, .iload_n 2, 1), (82, .invokevirtual 123, 3), (85, .ifCond .ne 5, 3), (88, .iconst 0, 1), (89, .ireturn, 1), (90, .iinc 1 1, 3), (93, .goto (-66), 3), (96, .iconst 0, 1), (97, .ireturn, 1)]
theorem ok_X6_takeDay_1 : (tb_X6_takeDay_1.all fun q => decide (decode cX6_takeDay q.1 = .ok q.2)) = true := rdc_all _ 0 _ rfl (by decide +kernel)
def tb_X6_takeNumber_0 : List (Nat × Instr × Nat) := [(0, .aload_n 0, 1), (1, .getfield 65, 3), (4, .iconst 2, 1), (5, .if_icmp .eq 9, 3), (8, .aload_n 0, 1), (9, .iconst 2, 1), (10, .invokevirtual 85, 3), (13, .ireturn, 1), (14, .aload_n 0, 1), (15, .getfield 126, 3), (18, .iload_n 1, 1), (19, .iconst 2, 1), (20, .if_icmp .ne 8, 3), (23, .bipush 14, 2), (25, .goto 5, 3), (28, .bipush 7, 2), (30, .if_icmp .le 9, 3), (33, .aload_n 0, 1), (34, .iconst 3, 1), (35, .invokevirtual 85, 3), (38, .ireturn, 1), (39, .aload_n 0, 1), (40, .getfield 26, 3), (43, .iload_n 1, 1), (44, .aload_n 0, 1), (45, .getfield 126, 3), (48, .invokevirtual 129, 3), (51, .iconst 1, 1), (52, .ireturn, 1)]
theorem ok_X6_takeNumber_0 : (tb_X6_takeNumber_0.all fun q => decide (decode cX6_takeNumber q.1 = .ok q.2)) = true := rdc_all _ 0 _ rfl (by decide +kernel)
def tb_X6_judgeWhole_0 : List (Nat × Instr × Nat) := [(0, .aload_n 0, 1), (1, .getfield 20, 3), (4, .getfield 89, 3), (7, .ifCond .eq 24, 3), (10, .aload_n 0, 1), (11, .getfield 20, 3), (14, .aload_n 0, 1), (15, .getfield 14, 3), (18, .invokevirtual 133, 3), (21, .ifCond .ne 10, 3), (24, .aload_n 0, 1), (25, .bipush 6, 2), (27, .invokevirtual 85, 3), (30, .pop, 1), (31, .iconst 0, 1), (32, .istore_n 1, 1), (33, .iload_n 1, 1), (34, .aload_n 0, 1), (35, .getfield 26, 3), (38, .getfield 113, 3), (41, .if_icmp .ge 64, 3), (44, .iconst 0, 1), (45, .istore_n 2, 1), (46, .iload_n 2, 1), (47, .aload_n 0, 1), (48, .getfield 26, 3), (51, .iload_n 1, 1), (52, .invokevirtual 136, 3), (55, .if_icmp .ge 44, 3), (58, .aload_n 0, 1), (59, .getfield 14, 3), (62, .aload_n 0, 1), (63, .getfield 26, 3), (66, .iload_n 1, 1), (67, .iload_n 2, 1), (68, .invokevirtual 139, 3), (71, .aload_n 0, 1), (72, .getfield 26, 3), (75, .iload_n 1, 1), (76, .iload_n 2, 1)]
theorem ok_X6_judgeWhole_0 : (tb_X6_judgeWhole_0.all fun q => decide (decode cX6_judgeWhole q.1 = .ok q.2)) = true := rdc_all _ 0 _ rfl (by decide +kernel)
def tb_X6_judgeWhole_1 : List (Nat × Instr × Nat) := [(77, .invokevirtual 143, 3), (80, .invokevirtual 146, 3), (83, .ifCond .ne 10, 3), (86, .aload_n 0, 1), (87, .bipush 7, 2), (89, .invokevirtual 85, 3), (92, .pop, 1), (93, .iinc 2 1, 3), (96, .goto (-50), 3), (99, .iinc 1 1, 3), (102, .goto (-69), 3), (105, .return_, 1)]
theorem ok_X6_judgeWhole_1 : (tb_X6_judgeWhole_1.all fun q => decide (decode cX6_judgeWhole q.1 = .ok q.2)) = true := rdc_all _ 0 _ rfl (by decide +kernel)
def tb_X6_kindNamed_0 : List (Nat × Instr × Nat) := [(0, .aload_n 0, 1), (1, .ldc 150, 2), (3, .invokevirtual 70, 3), (6, .ifCond .eq 5, 3), (9, .iconst 0, 1), (10, .ireturn, 1), (11, .aload_n 0, 1), (12, .ldc 152, 2), (14, .invokevirtual 70, 3), (17, .ifCond .eq 5, 3), (20, .iconst 1, 1), (21, .ireturn, 1), (22, .aload_n 0, 1), (23, .ldc 154, 2), (25, .invokevirtual 70, 3), (28, .ifCond .eq 7, 3), (31, .iconst 2, 1), (32, .goto 4, 3), (35, .iconst (-1), 1), (36, .ireturn, 1)]
theorem ok_X6_kindNamed_0 : (tb_X6_kindNamed_0.all fun q => decide (decode cX6_kindNamed q.1 = .ok q.2)) = true := rdc_all _ 0 _ rfl (by decide +kernel)
def tb_X6_isNamed_0 : List (Nat × Instr × Nat) := [(0, .aload_n 0, 1), (1, .getfield 65, 3), (4, .iconst 1, 1), (5, .if_icmp .ne 19, 3), (8, .aload_n 0, 1), (9, .getfield 47, 3), (12, .aload_n 0, 1), (13, .getfield 59, 3), (16, .isub, 1), (17, .aload_n 1, 1), (18, .invokevirtual 156, 3), (21, .if_icmp .eq 5, 3), (24, .iconst 0, 1), (25, .ireturn, 1), (26, .iconst 0, 1), (27, .istore_n 2, 1), (28, .iload_n 2, 1), (29, .aload_n 1, 1), (30, .invokevirtual 156, 3), (33, .if_icmp .ge 32, 3), (36, .aload_n 0, 1), (37, .getfield 30, 3), (40, .aload_n 0, 1), (41, .getfield 59, 3), (44, .iload_n 2, 1), (45, .iadd, 1), (46, .invokevirtual 105, 3), (49, .aload_n 1, 1), (50, .iload_n 2, 1), (51, .invokevirtual 161, 3), (54, .if_icmp .eq 5, 3), (57, .iconst 0, 1), (58, .ireturn, 1), (59, .iinc 2 1, 3), (62, .goto (-34), 3), (65, .iconst 1, 1), (66, .ireturn, 1)]
theorem ok_X6_isNamed_0 : (tb_X6_isNamed_0.all fun q => decide (decode cX6_isNamed q.1 = .ok q.2)) = true := rdc_all _ 0 _ rfl (by decide +kernel)
def tb_X6_isRow_0 : List (Nat × Instr × Nat) := [(0, .aload_n 0, 1), (1, .getfield 65, 3), (4, .iconst 1, 1), (5, .if_icmp .eq 5, 3), (8, .iconst 0, 1), (9, .ireturn, 1), (10, .aload_n 0, 1), (11, .getfield 59, 3), (14, .istore_n 1, 1), (15, .iload_n 1, 1), (16, .aload_n 0, 1), (17, .getfield 47, 3), (20, .if_icmp .ge 32, 3), (23, .aload_n 0, 1), (24, .getfield 30, 3), (27, .iload_n 1, 1), (28, .invokevirtual 105, 3), (31, .istore_n 2, 1), (32, .iload_n 2, 1), (33, .bipush 100, 2), (35, .if_icmp .eq 11, 3), (38, .iload_n 2, 1), (39, .bipush 108, 2), (41, .if_icmp .eq 5, 3), (44, .iconst 0, 1), (45, .ireturn, 1), (46, .iinc 1 1, 3), (49, .goto (-34), 3), (52, .iconst 1, 1), (53, .ireturn, 1)]
theorem ok_X6_isRow_0 : (tb_X6_isRow_0.all fun q => decide (decode cX6_isRow q.1 = .ok q.2)) = true := rdc_all _ 0 _ rfl (by decide +kernel)
def tb_X6_step_0 : List (Nat × Instr × Nat) := [(0, .aload_n 0, 1), (1, .getfield 47, 3), (4, .aload_n 0, 1), (5, .getfield 30, 3), (8, .getfield 165, 3), (11, .if_icmp .ge 32, 3), (14, .aload_n 0, 1), (15, .getfield 30, 3), (18, .aload_n 0, 1), (19, .getfield 47, 3), (22, .invokevirtual 105, 3), (25, .bipush 32, 2), (27, .if_icmp .ne 16, 3), (30, .aload_n 0, 1), (31, .dup, 1), (32, .getfield 47, 3), (35, .iconst 1, 1), (36, .iadd, 1), (37, .putfield 47, 3), (40, .goto (-40), 3), (43, .aload_n 0, 1), (44, .aload_n 0, 1), (45, .getfield 47, 3), (48, .putfield 59, 3), (51, .aload_n 0, 1), (52, .getfield 59, 3), (55, .aload_n 0, 1), (56, .getfield 30, 3), (59, .getfield 165, 3), (62, .if_icmp .lt 11, 3), (65, .aload_n 0, 1), (66, .iconst 0, 1), (67, .putfield 65, 3), (70, .goto 138, 3), (73, .aload_n 0, 1), (74, .getfield 30, 3), (77, .aload_n 0, 1), (78, .getfield 59, 3), (81, .invokevirtual 105, 3), (84, .bipush 59, 2)]
theorem ok_X6_step_0 : (tb_X6_step_0.all fun q => decide (decode cX6_step q.1 = .ok q.2)) = true := rdc_all _ 0 _ rfl (by decide +kernel)
def tb_X6_step_1 : List (Nat × Instr × Nat) := [(86, .if_icmp .ne 21, 3), (89, .aload_n 0, 1), (90, .iconst 3, 1), (91, .putfield 65, 3), (94, .aload_n 0, 1), (95, .dup, 1), (96, .getfield 47, 3), (99, .iconst 1, 1), (100, .iadd, 1), (101, .putfield 47, 3), (104, .goto 104, 3), (107, .aload_n 0, 1), (108, .getfield 30, 3), (111, .aload_n 0, 1), (112, .getfield 59, 3), (115, .invokevirtual 105, 3), (118, .invokestatic 167, 3), (121, .ifCond .eq 52, 3), (124, .aload_n 0, 1), (125, .iconst 1, 1), (126, .putfield 65, 3), (129, .aload_n 0, 1), (130, .getfield 47, 3), (133, .aload_n 0, 1), (134, .getfield 30, 3), (137, .getfield 165, 3), (140, .if_icmp .ge 68, 3), (143, .aload_n 0, 1), (144, .getfield 30, 3), (147, .aload_n 0, 1), (148, .getfield 47, 3), (151, .invokevirtual 105, 3), (154, .invokestatic 167, 3), (157, .ifCond .eq 51, 3), (160, .aload_n 0, 1), (161, .dup, 1), (162, .getfield 47, 3), (165, .iconst 1, 1), (166, .iadd, 1), (167, .putfield 47, 3)]
theorem ok_X6_step_1 : (tb_X6_step_1.all fun q => decide (decode cX6_step q.1 = .ok q.2)) = true := rdc_all _ 0 _ rfl (by decide +kernel)
def tb_X6_step_2 : List (Nat × Instr × Nat) := [(170, .goto (-41), 3), (173, .aload_n 0, 1), (174, .getfield 30, 3), (177, .aload_n 0, 1), (178, .getfield 59, 3), (181, .invokevirtual 105, 3), (184, .invokestatic 170, 3), (187, .ifCond .eq 10, 3), (190, .aload_n 0, 1), (191, .invokevirtual 173, 3), (194, .goto 14, 3), (197, .aload_n 0, 1), (198, .iconst 4, 1), (199, .putfield 65, 3), (202, .aload_n 0, 1), (203, .iconst 1, 1), (204, .invokevirtual 85, 3), (207, .pop, 1), (208, .return_, 1)]
theorem ok_X6_step_2 : (tb_X6_step_2.all fun q => decide (decode cX6_step q.1 = .ok q.2)) = true := rdc_all _ 0 _ rfl (by decide +kernel)
def tb_X6_stepNumber_0 : List (Nat × Instr × Nat) := [(0, .aload_n 0, 1), (1, .iconst 2, 1), (2, .putfield 65, 3), (5, .aload_n 0, 1), (6, .iconst 0, 1), (7, .putfield 126, 3), (10, .aload_n 0, 1), (11, .getfield 47, 3), (14, .aload_n 0, 1), (15, .getfield 30, 3), (18, .getfield 165, 3), (21, .if_icmp .ge 59, 3), (24, .aload_n 0, 1), (25, .getfield 30, 3), (28, .aload_n 0, 1), (29, .getfield 47, 3), (32, .invokevirtual 105, 3), (35, .invokestatic 170, 3), (38, .ifCond .eq 42, 3), (41, .aload_n 0, 1), (42, .bipush 10, 2), (44, .aload_n 0, 1), (45, .getfield 126, 3), (48, .imul, 1), (49, .aload_n 0, 1), (50, .getfield 30, 3), (53, .aload_n 0, 1), (54, .getfield 47, 3), (57, .invokevirtual 105, 3), (60, .iadd, 1), (61, .bipush 48, 2), (63, .isub, 1), (64, .putfield 126, 3), (67, .aload_n 0, 1), (68, .dup, 1), (69, .getfield 47, 3), (72, .iconst 1, 1), (73, .iadd, 1), (74, .putfield 47, 3), (77, .goto (-67), 3)]
theorem ok_X6_stepNumber_0 : (tb_X6_stepNumber_0.all fun q => decide (decode cX6_stepNumber q.1 = .ok q.2)) = true := rdc_all _ 0 _ rfl (by decide +kernel)
def tb_X6_stepNumber_1 : List (Nat × Instr × Nat) := [(80, .aload_n 0, 1), (81, .getfield 47, 3), (84, .aload_n 0, 1), (85, .getfield 59, 3), (88, .isub, 1), (89, .iconst 2, 1), (90, .if_icmp .le 14, 3), (93, .aload_n 0, 1), (94, .iconst 4, 1), (95, .putfield 65, 3), (98, .aload_n 0, 1), (99, .iconst 1, 1), (100, .invokevirtual 85, 3), (103, .pop, 1), (104, .return_, 1)]
theorem ok_X6_stepNumber_1 : (tb_X6_stepNumber_1.all fun q => decide (decode cX6_stepNumber q.1 = .ok q.2)) = true := rdc_all _ 0 _ rfl (by decide +kernel)
def tb_X6_isLetter_0 : List (Nat × Instr × Nat) := [(0, .iload_n 0, 1), (1, .bipush 97, 2), (3, .if_icmp .lt 13, 3), (6, .iload_n 0, 1), (7, .bipush 122, 2), (9, .if_icmp .gt 7, 3), (12, .iconst 1, 1), (13, .goto 4, 3), (16, .iconst 0, 1), (17, .ireturn, 1)]
theorem ok_X6_isLetter_0 : (tb_X6_isLetter_0.all fun q => decide (decode cX6_isLetter q.1 = .ok q.2)) = true := rdc_all _ 0 _ rfl (by decide +kernel)
def tb_X6_isFigure_0 : List (Nat × Instr × Nat) := [(0, .iload_n 0, 1), (1, .bipush 48, 2), (3, .if_icmp .lt 13, 3), (6, .iload_n 0, 1), (7, .bipush 57, 2), (9, .if_icmp .gt 7, 3), (12, .iconst 1, 1), (13, .goto 4, 3), (16, .iconst 0, 1), (17, .ireturn, 1)]
theorem ok_X6_isFigure_0 : (tb_X6_isFigure_0.all fun q => decide (decode cX6_isFigure q.1 = .ok q.2)) = true := rdc_all _ 0 _ rfl (by decide +kernel)
def tb_X7_init_0 : List (Nat × Instr × Nat) := [(0, .aload_n 0, 1), (1, .invokespecial 3, 3), (4, .aload_n 0, 1), (5, .bipush 15, 2), (7, .newarray .long, 2), (9, .putfield 9, 3), (12, .aload_n 0, 1), (13, .bipush 64, 2), (15, .newarray .long, 2), (17, .putfield 15, 3), (20, .return_, 1)]
theorem ok_X7_init_0 : (tb_X7_init_0.all fun q => decide (decode cX7_init q.1 = .ok q.2)) = true := rdc_all _ 0 _ rfl (by decide +kernel)
def tb_X7_acts_0 : List (Nat × Instr × Nat) := [(0, .aload_n 0, 1), (1, .getfield 18, 3), (4, .invokestatic 22, 3), (7, .aload_n 0, 1), (8, .getfield 28, 3), (11, .invokestatic 22, 3), (14, .iadd, 1), (15, .aload_n 0, 1), (16, .getfield 31, 3), (19, .invokestatic 22, 3), (22, .iadd, 1), (23, .ireturn, 1)]
theorem ok_X7_acts_0 : (tb_X7_acts_0.all fun q => decide (decode cX7_acts q.1 = .ok q.2)) = true := rdc_all _ 0 _ rfl (by decide +kernel)
def tb_X7_take_0 : List (Nat × Instr × Nat) := [(0, .aload_n 0, 1), (1, .iload_n 1, 1), (2, .putfield 18, 3), (5, .aload_n 0, 1), (6, .iload_n 2, 1), (7, .putfield 28, 3), (10, .aload_n 0, 1), (11, .iload_n 3, 1), (12, .putfield 31, 3), (15, .return_, 1)]
theorem ok_X7_take_0 : (tb_X7_take_0.all fun q => decide (decode cX7_take q.1 = .ok q.2)) = true := rdc_all _ 0 _ rfl (by decide +kernel)
def tb_X7_findPlan_0 : List (Nat × Instr × Nat) := [(0, .aload_n 0, 1), (1, .aload_n 1, 1), (2, .lload_n 2, 1), (3, .invokevirtual 34, 3), (6, .lconst 0, 1), (7, .lcmp, 1), (8, .ifCond .ne 7, 3), (11, .iconst 1, 1), (12, .goto 4, 3), (15, .iconst 0, 1), (16, .putfield 40, 3), (19, .aload_n 0, 1), (20, .aload_n 1, 1), (21, .lload_n 2, 1), (22, .invokevirtual 44, 3), (25, .aload_n 1, 1), (26, .lload_n 2, 1), (27, .invokevirtual 48, 3), (30, .iconst 0, 1), (31, .invokevirtual 51, 3), (34, .aload_n 0, 1), (35, .getfield 18, 3), (38, .aload_n 1, 1), (39, .invokevirtual 55, 3), (42, .ixor, 1), (43, .istore 4, 2), (45, .aload_n 0, 1), (46, .invokevirtual 59, 3), (49, .istore 5, 2), (51, .aload_n 1, 1), (52, .getfield 62, 3), (55, .aload_n 1, 1), (56, .getfield 65, 3), (59, .iadd, 1), (60, .iload 5, 2), (62, .isub, 1), (63, .istore 6, 2), (65, .iload 6, 2), (67, .iload 5, 2), (69, .if_icmp .lt 19, 3)]
theorem ok_X7_findPlan_0 : (tb_X7_findPlan_0.all fun q => decide (decode cX7_findPlan q.1 = .ok q.2)) = true := rdc_all _ 0 _ rfl (by decide +kernel)
def tb_X7_findPlan_1 : List (Nat × Instr × Nat) := [(72, .iload 6, 2), (74, .iload 5, 2), (76, .if_icmp .ne 28, 3), (79, .iload 4, 2), (81, .aload_n 0, 1), (82, .getfield 18, 3), (85, .if_icmp .ge 19, 3), (88, .aload_n 0, 1), (89, .iload 4, 2), (91, .aload_n 0, 1), (92, .getfield 28, 3), (95, .aload_n 1, 1), (96, .invokevirtual 68, 3), (99, .ixor, 1), (100, .iconst 0, 1), (101, .invokevirtual 51, 3), (104, .return_, 1)]
theorem ok_X7_findPlan_1 : (tb_X7_findPlan_1.all fun q => decide (decode cX7_findPlan q.1 = .ok q.2)) = true := rdc_all _ 0 _ rfl (by decide +kernel)
def tb_X7_findNearest_0 : List (Nat × Instr × Nat) := [(0, .aload_n 0, 1), (1, .iconst 0, 1), (2, .putfield 40, 3), (5, .iconst 0, 1), (6, .istore 4, 2), (8, .iload 4, 2), (10, .aload_n 1, 1), (11, .invokevirtual 55, 3), (14, .if_icmp .gt 25, 3), (17, .aload_n 0, 1), (18, .aload_n 1, 1), (19, .iload 4, 2), (21, .lload_n 2, 1), (22, .aload_n 1, 1), (23, .iload 4, 2), (25, .iconst 0, 1), (26, .invokevirtual 71, 3), (29, .lxor, 1), (30, .invokevirtual 75, 3), (33, .iinc 4 1, 3), (36, .goto (-28), 3), (39, .return_, 1)]
theorem ok_X7_findNearest_0 : (tb_X7_findNearest_0.all fun q => decide (decode cX7_findNearest q.1 = .ok q.2)) = true := rdc_all _ 0 _ rfl (by decide +kernel)
def tb_X7_tryRows_0 : List (Nat × Instr × Nat) := [(0, .iconst 0, 1), (1, .istore 5, 2), (3, .iconst 0, 1), (4, .istore 6, 2), (6, .iconst 0, 1), (7, .istore 7, 2), (9, .iload 7, 2), (11, .aload_n 1, 1), (12, .getfield 65, 3), (15, .if_icmp .ge 60, 3), (18, .lload_n 3, 1), (19, .aload_n 1, 1), (20, .iconst 1, 1), (21, .iload 7, 2), (23, .invokevirtual 79, 3), (26, .land, 1), (27, .invokestatic 82, 3), (30, .istore 8, 2), (32, .iconst 2, 1), (33, .iload 8, 2), (35, .imul, 1), (36, .aload_n 1, 1), (37, .getfield 62, 3), (40, .if_icmp .le 12, 3), (43, .iload 5, 2), (45, .iconst 1, 1), (46, .iload 7, 2), (48, .ishl, 1), (49, .ior, 1), (50, .istore 5, 2), (52, .iload 6, 2), (54, .iload 8, 2), (56, .aload_n 1, 1), (57, .getfield 62, 3), (60, .iload 8, 2), (62, .isub, 1), (63, .invokestatic 86, 3), (66, .iadd, 1), (67, .istore 6, 2), (69, .iinc 7 1, 3)]
theorem ok_X7_tryRows_0 : (tb_X7_tryRows_0.all fun q => decide (decode cX7_tryRows q.1 = .ok q.2)) = true := rdc_all _ 0 _ rfl (by decide +kernel)
def tb_X7_tryRows_1 : List (Nat × Instr × Nat) := [(72, .goto (-63), 3), (75, .aload_n 0, 1), (76, .getfield 40, 3), (79, .ifCond .eq 12, 3), (82, .iload 6, 2), (84, .aload_n 0, 1), (85, .getfield 92, 3), (88, .if_icmp .ge 22, 3), (91, .aload_n 0, 1), (92, .iconst 1, 1), (93, .putfield 40, 3), (96, .aload_n 0, 1), (97, .iload_n 2, 1), (98, .iload 5, 2), (100, .iconst 0, 1), (101, .invokevirtual 51, 3), (104, .aload_n 0, 1), (105, .iload 6, 2), (107, .putfield 92, 3), (110, .return_, 1)]
theorem ok_X7_tryRows_1 : (tb_X7_tryRows_1.all fun q => decide (decode cX7_tryRows q.1 = .ok q.2)) = true := rdc_all _ 0 _ rfl (by decide +kernel)
def tb_X7_goBlind_0 : List (Nat × Instr × Nat) := [(0, .lload_n 2, 1), (1, .lstore 4, 2), (3, .aload_n 0, 1), (4, .iconst 0, 1), (5, .putfield 95, 3), (8, .lload 4, 2), (10, .lconst 0, 1), (11, .lcmp, 1), (12, .ifCond .eq 63, 3), (15, .aload_n 0, 1), (16, .getfield 95, 3), (19, .bipush 60, 2), (21, .if_icmp .ge 54, 3), (24, .aload_n 1, 1), (25, .iconst 0, 1), (26, .aload_n 1, 1), (27, .iconst 0, 1), (28, .lload 4, 2), (30, .invokestatic 98, 3), (33, .invokevirtual 79, 3), (36, .lstore 6, 2), (38, .aload_n 1, 1), (39, .iconst 1, 1), (40, .aload_n 1, 1), (41, .iconst 1, 1), (42, .lload 4, 2), (44, .invokestatic 98, 3), (47, .invokevirtual 79, 3), (50, .lstore 8, 2), (52, .lload 4, 2), (54, .lload 6, 2), (56, .lload 8, 2), (58, .lxor, 1), (59, .lxor, 1), (60, .lstore 4, 2), (62, .aload_n 0, 1), (63, .dup, 1), (64, .getfield 95, 3), (67, .iconst 1, 1), (68, .iadd, 1)]
theorem ok_X7_goBlind_0 : (tb_X7_goBlind_0.all fun q => decide (decode cX7_goBlind q.1 = .ok q.2)) = true := rdc_all _ 0 _ rfl (by decide +kernel)
def tb_X7_goBlind_1 : List (Nat × Instr × Nat) := [(69, .putfield 95, 3), (72, .goto (-64), 3), (75, .aload_n 0, 1), (76, .lload 4, 2), (78, .lconst 0, 1), (79, .lcmp, 1), (80, .ifCond .ne 7, 3), (83, .iconst 1, 1), (84, .goto 4, 3), (87, .iconst 0, 1), (88, .putfield 40, 3), (91, .aload_n 0, 1), (92, .lload 4, 2), (94, .invokestatic 82, 3), (97, .putfield 92, 3), (100, .return_, 1)]
theorem ok_X7_goBlind_1 : (tb_X7_goBlind_1.all fun q => decide (decode cX7_goBlind q.1 = .ok q.2)) = true := rdc_all _ 0 _ rfl (by decide +kernel)
def tb_X7_mostUnlike_0 : List (Nat × Instr × Nat) := [(0, .iconst (-1), 1), (1, .istore 4, 2), (3, .iconst 0, 1), (4, .istore 5, 2), (6, .iconst 0, 1), (7, .istore 6, 2), (9, .iload 6, 2), (11, .aload_n 0, 1), (12, .iload_n 1, 1), (13, .invokevirtual 102, 3), (16, .if_icmp .ge 54, 3), (19, .aload_n 0, 1), (20, .iload_n 1, 1), (21, .iload 6, 2), (23, .invokevirtual 79, 3), (26, .lstore 7, 2), (28, .lload_n 2, 1), (29, .lload 7, 2), (31, .land, 1), (32, .invokestatic 82, 3), (35, .istore 9, 2), (37, .iconst 2, 1), (38, .iload 9, 2), (40, .imul, 1), (41, .lload 7, 2), (43, .invokestatic 82, 3), (46, .if_icmp .le 18, 3), (49, .iload 9, 2), (51, .iload 5, 2), (53, .if_icmp .le 11, 3), (56, .iload 6, 2), (58, .istore 4, 2), (60, .iload 9, 2), (62, .istore 5, 2), (64, .iinc 6 1, 3), (67, .goto (-58), 3), (70, .iload 4, 2), (72, .ireturn, 1)]
theorem ok_X7_mostUnlike_0 : (tb_X7_mostUnlike_0.all fun q => decide (decode cX7_mostUnlike q.1 = .ok q.2)) = true := rdc_all _ 0 _ rfl (by decide +kernel)
def tb_X7_findSlanted_0 : List (Nat × Instr × Nat) := [(0, .iconst 0, 1), (1, .istore 4, 2), (3, .iload 4, 2), (5, .aload_n 0, 1), (6, .getfield 9, 3), (9, .arraylength, 1), (10, .if_icmp .ge 23, 3), (13, .aload_n 0, 1), (14, .getfield 9, 3), (17, .iload 4, 2), (19, .aload_n 1, 1), (20, .iconst 2, 1), (21, .iload 4, 2), (23, .invokevirtual 79, 3), (26, .lastore, 1), (27, .iinc 4 1, 3), (30, .goto (-27), 3), (33, .aload_n 0, 1), (34, .iconst 0, 1), (35, .putfield 40, 3), (38, .iconst 0, 1), (39, .istore 4, 2), (41, .iload 4, 2), (43, .aload_n 1, 1), (44, .invokevirtual 55, 3), (47, .if_icmp .gt 45, 3), (50, .iconst 0, 1), (51, .istore 5, 2), (53, .iload 5, 2), (55, .aload_n 1, 1), (56, .invokevirtual 68, 3), (59, .if_icmp .gt 27, 3), (62, .aload_n 0, 1), (63, .iload 4, 2), (65, .iload 5, 2), (67, .lload_n 2, 1), (68, .aload_n 1, 1), (69, .iload 4, 2), (71, .iload 5, 2), (73, .invokevirtual 71, 3)]
theorem ok_X7_findSlanted_0 : (tb_X7_findSlanted_0.all fun q => decide (decode cX7_findSlanted q.1 = .ok q.2)) = true := rdc_all _ 0 _ rfl (by decide +kernel)
def tb_X7_findSlanted_1 : List (Nat × Instr × Nat) := [(76, .lxor, 1), (77, .invokevirtual 105, 3), (80, .iinc 5 1, 3), (83, .goto (-30), 3), (86, .iinc 4 1, 3), (89, .goto (-48), 3), (92, .return_, 1)]
theorem ok_X7_findSlanted_1 : (tb_X7_findSlanted_1.all fun q => decide (decode cX7_findSlanted q.1 = .ok q.2)) = true := rdc_all _ 0 _ rfl (by decide +kernel)
def tb_X7_trySlants_0 : List (Nat × Instr × Nat) := [(0, .aload_n 0, 1), (1, .lload_n 3, 1), (2, .invokevirtual 109, 3), (5, .istore 5, 2), (7, .iload 5, 2), (9, .ifCond .ge 4, 3), (12, .return_, 1), (13, .iload_n 1, 1), (14, .invokestatic 22, 3), (17, .iload_n 2, 1), (18, .invokestatic 22, 3), (21, .iadd, 1), (22, .iload 5, 2), (24, .invokestatic 22, 3), (27, .iadd, 1), (28, .istore 6, 2), (30, .aload_n 0, 1), (31, .getfield 40, 3), (34, .ifCond .eq 12, 3), (37, .iload 6, 2), (39, .aload_n 0, 1), (40, .invokevirtual 59, 3), (43, .if_icmp .ge 16, 3), (46, .aload_n 0, 1), (47, .iconst 1, 1), (48, .putfield 40, 3), (51, .aload_n 0, 1), (52, .iload_n 1, 1), (53, .iload_n 2, 1), (54, .iload 5, 2), (56, .invokevirtual 51, 3), (59, .return_, 1)]
theorem ok_X7_trySlants_0 : (tb_X7_trySlants_0.all fun q => decide (decode cX7_trySlants q.1 = .ok q.2)) = true := rdc_all _ 0 _ rfl (by decide +kernel)
def tb_X7_slantsThatMake_0 : List (Nat × Instr × Nat) := [(0, .iconst 0, 1), (1, .istore_n 3, 1), (2, .iconst 0, 1), (3, .istore 4, 2), (5, .iload 4, 2), (7, .aload_n 0, 1), (8, .getfield 9, 3), (11, .arraylength, 1), (12, .if_icmp .ge 56, 3), (15, .lload_n 1, 1), (16, .aload_n 0, 1), (17, .getfield 9, 3), (20, .iload 4, 2), (22, .laload, 1), (23, .land, 1), (24, .lstore 5, 2), (26, .lload 5, 2), (28, .lconst 0, 1), (29, .lcmp, 1), (30, .ifCond .eq 18, 3), (33, .lload 5, 2), (35, .aload_n 0, 1), (36, .getfield 9, 3), (39, .iload 4, 2), (41, .laload, 1), (42, .lcmp, 1), (43, .ifCond .eq 5, 3), (46, .iconst (-1), 1), (47, .ireturn, 1), (48, .lload 5, 2), (50, .lconst 0, 1), (51, .lcmp, 1), (52, .ifCond .eq 10, 3), (55, .iload_n 3, 1), (56, .iconst 1, 1), (57, .iload 4, 2), (59, .ishl, 1), (60, .ior, 1), (61, .istore_n 3, 1), (62, .iinc 4 1, 3)]
theorem ok_X7_slantsThatMake_0 : (tb_X7_slantsThatMake_0.all fun q => decide (decode cX7_slantsThatMake q.1 = .ok q.2)) = true := rdc_all _ 0 _ rfl (by decide +kernel)
def tb_X7_slantsThatMake_1 : List (Nat × Instr × Nat) := [(65, .goto (-60), 3), (68, .iload_n 3, 1), (69, .ireturn, 1)]
theorem ok_X7_slantsThatMake_1 : (tb_X7_slantsThatMake_1.all fun q => decide (decode cX7_slantsThatMake q.1 = .ok q.2)) = true := rdc_all _ 0 _ rfl (by decide +kernel)
def tb_X7_findSpoilt_0 : List (Nat × Instr × Nat) := [(0, .aload_n 1, 1), (1, .lload_n 2, 1), (2, .invokevirtual 34, 3), (5, .lstore 4, 2), (7, .aload_n 0, 1), (8, .iconst 0, 1), (9, .putfield 112, 3), (12, .aload_n 0, 1), (13, .iconst 0, 1), (14, .putfield 115, 3), (17, .iconst 0, 1), (18, .istore 6, 2), (20, .iload 6, 2), (22, .aload_n 0, 1), (23, .getfield 15, 3), (26, .arraylength, 1), (27, .if_icmp .ge 69, 3), (30, .aload_n 1, 1), (31, .iload 6, 2), (33, .iconst 3, 1), (34, .ishr, 1), (35, .iload 6, 2), (37, .bipush 7, 2), (39, .iand, 1), (40, .invokevirtual 118, 3), (43, .ifCond .eq 47, 3), (46, .aload_n 1, 1), (47, .lconst 1, 1), (48, .iload 6, 2), (50, .lshl, 1), (51, .invokevirtual 34, 3), (54, .lload 4, 2), (56, .lcmp, 1), (57, .ifCond .ne 33, 3), (60, .aload_n 0, 1), (61, .aload_n 0, 1), (62, .getfield 112, 3), (65, .ifCond .ne 8, 3), (68, .iload 6, 2), (70, .goto 7, 3)]
theorem ok_X7_findSpoilt_0 : (tb_X7_findSpoilt_0.all fun q => decide (decode cX7_findSpoilt q.1 = .ok q.2)) = true := rdc_all _ 0 _ rfl (by decide +kernel)
def tb_X7_findSpoilt_1 : List (Nat × Instr × Nat) := [(73, .aload_n 0, 1), (74, .getfield 115, 3), (77, .putfield 115, 3), (80, .aload_n 0, 1), (81, .dup, 1), (82, .getfield 112, 3), (85, .iconst 1, 1), (86, .iadd, 1), (87, .putfield 112, 3), (90, .iinc 6 1, 3), (93, .goto (-73), 3), (96, .return_, 1)]
theorem ok_X7_findSpoilt_1 : (tb_X7_findSpoilt_1.all fun q => decide (decode cX7_findSpoilt q.1 = .ok q.2)) = true := rdc_all _ 0 _ rfl (by decide +kernel)
def tb_X7_findBothSpoilt_0 : List (Nat × Instr × Nat) := [(0, .aload_n 1, 1), (1, .lload_n 2, 1), (2, .invokevirtual 34, 3), (5, .lstore 4, 2), (7, .aload_n 0, 1), (8, .iconst 0, 1), (9, .putfield 112, 3), (12, .aload_n 0, 1), (13, .iconst 0, 1), (14, .putfield 115, 3), (17, .iconst 0, 1), (18, .istore 6, 2), (20, .iload 6, 2), (22, .aload_n 0, 1), (23, .getfield 15, 3), (26, .arraylength, 1), (27, .if_icmp .ge 24, 3), (30, .aload_n 0, 1), (31, .getfield 15, 3), (34, .iload 6, 2), (36, .aload_n 1, 1), (37, .lconst 1, 1), (38, .iload 6, 2), (40, .lshl, 1), (41, .invokevirtual 34, 3), (44, .lastore, 1), (45, .iinc 6 1, 3), (48, .goto (-28), 3), (51, .iconst 0, 1), (52, .istore 6, 2), (54, .iload 6, 2), (56, .aload_n 0, 1), (57, .getfield 15, 3), (60, .arraylength, 1), (61, .if_icmp .ge 42, 3), (64, .aload_n 1, 1), (65, .iload 6, 2), (67, .iconst 3, 1), (68, .ishr, 1), (69, .iload 6, 2)]
theorem ok_X7_findBothSpoilt_0 : (tb_X7_findBothSpoilt_0.all fun q => decide (decode cX7_findBothSpoilt q.1 = .ok q.2)) = true := rdc_all _ 0 _ rfl (by decide +kernel)
def tb_X7_findBothSpoilt_1 : List (Nat × Instr × Nat) := [(71, .bipush 7, 2), (73, .iand, 1), (74, .invokevirtual 118, 3), (77, .ifCond .eq 20, 3), (80, .aload_n 0, 1), (81, .aload_n 1, 1), (82, .iload 6, 2), (84, .lload 4, 2), (86, .aload_n 0, 1), (87, .getfield 15, 3), (90, .iload 6, 2), (92, .laload, 1), (93, .lxor, 1), (94, .invokevirtual 122, 3), (97, .iinc 6 1, 3), (100, .goto (-46), 3), (103, .return_, 1)]
theorem ok_X7_findBothSpoilt_1 : (tb_X7_findBothSpoilt_1.all fun q => decide (decode cX7_findBothSpoilt q.1 = .ok q.2)) = true := rdc_all _ 0 _ rfl (by decide +kernel)
def tb_X7_pairWith_0 : List (Nat × Instr × Nat) := [(0, .iconst 0, 1), (1, .istore 5, 2), (3, .iload 5, 2), (5, .aload_n 0, 1), (6, .getfield 15, 3), (9, .arraylength, 1), (10, .if_icmp .ge 78, 3), (13, .iload 5, 2), (15, .iload_n 2, 1), (16, .if_icmp .le 66, 3), (19, .aload_n 1, 1), (20, .iload 5, 2), (22, .iconst 3, 1), (23, .ishr, 1), (24, .iload 5, 2), (26, .bipush 7, 2), (28, .iand, 1), (29, .invokevirtual 118, 3), (32, .ifCond .eq 50, 3), (35, .aload_n 0, 1), (36, .getfield 15, 3), (39, .iload 5, 2), (41, .laload, 1), (42, .lload_n 3, 1), (43, .lcmp, 1), (44, .ifCond .ne 38, 3), (47, .aload_n 0, 1), (48, .aload_n 0, 1), (49, .getfield 112, 3), (52, .ifCond .ne 13, 3), (55, .bipush 64, 2), (57, .iload_n 2, 1), (58, .imul, 1), (59, .iload 5, 2), (61, .iadd, 1), (62, .goto 7, 3), (65, .aload_n 0, 1), (66, .getfield 115, 3), (69, .putfield 115, 3), (72, .aload_n 0, 1)]
theorem ok_X7_pairWith_0 : (tb_X7_pairWith_0.all fun q => decide (decode cX7_pairWith q.1 = .ok q.2)) = true := rdc_all _ 0 _ rfl (by decide +kernel)
def tb_X7_pairWith_1 : List (Nat × Instr × Nat) := [(73, .dup, 1), (74, .getfield 112, 3), (77, .iconst 1, 1), (78, .iadd, 1), (79, .putfield 112, 3), (82, .iinc 5 1, 3), (85, .goto (-82), 3), (88, .return_, 1)]
theorem ok_X7_pairWith_1 : (tb_X7_pairWith_1.all fun q => decide (decode cX7_pairWith q.1 = .ok q.2)) = true := rdc_all _ 0 _ rfl (by decide +kernel)
def tb_X8_init_0 : List (Nat × Instr × Nat) := [(0, .aload_n 0, 1), (1, .invokespecial 3, 3), (4, .aload_n 0, 1), (5, .new 9, 3), (8, .dup, 1), (9, .iconst 1, 1), (10, .invokespecial 11, 3), (13, .putfield 14, 3), (16, .aload_n 0, 1), (17, .new 9, 3), (20, .dup, 1), (21, .iconst 0, 1), (22, .invokespecial 11, 3), (25, .putfield 18, 3), (28, .aload_n 0, 1), (29, .new 9, 3), (32, .dup, 1), (33, .iconst 0, 1), (34, .invokespecial 11, 3), (37, .putfield 21, 3), (40, .aload_n 0, 1), (41, .new 9, 3), (44, .dup, 1), (45, .iconst 0, 1), (46, .invokespecial 11, 3), (49, .putfield 24, 3), (52, .aload_n 0, 1), (53, .new 9, 3), (56, .dup, 1), (57, .iconst 1, 1), (58, .invokespecial 11, 3), (61, .putfield 27, 3), (64, .aload_n 0, 1), (65, .new 30, 3), (68, .dup, 1), (69, .invokespecial 32, 3), (72, .putfield 33, 3), (75, .aload_n 0, 1), (76, .new 37, 3), (79, .dup, 1)]
theorem ok_X8_init_0 : (tb_X8_init_0.all fun q => decide (decode cX8_init q.1 = .ok q.2)) = true := rdc_all _ 0 _ rfl (by decide +kernel)
def tb_X8_init_1 : List (Nat × Instr × Nat) := [(80, .invokespecial 39, 3), (83, .putfield 40, 3), (86, .aload_n 0, 1), (87, .new 44, 3), (90, .dup, 1), (91, .aload_n 0, 1), (92, .getfield 40, 3), (95, .invokespecial 46, 3), (98, .putfield 49, 3), (101, .aload_n 0, 1), (102, .new 53, 3), (105, .dup, 1), (106, .invokespecial 55, 3), (109, .putfield 56, 3), (112, .aload_n 0, 1), (113, .new 60, 3), (116, .dup, 1), (117, .invokespecial 62, 3), (120, .putfield 63, 3), (123, .aload_n 0, 1), (124, .new 67, 3), (127, .dup, 1), (128, .invokespecial 69, 3), (131, .putfield 70, 3), (134, .aload_n 0, 1), (135, .new 67, 3), (138, .dup, 1), (139, .invokespecial 69, 3), (142, .putfield 74, 3), (145, .aload_n 0, 1), (146, .bipush 31, 2), (148, .newarray .long, 2), (150, .putfield 77, 3), (153, .return_, 1)]
theorem ok_X8_init_1 : (tb_X8_init_1.all fun q => decide (decode cX8_init q.1 = .ok q.2)) = true := rdc_all _ 0 _ rfl (by decide +kernel)
def tb_X8_feed_0 : List (Nat × Instr × Nat) := [(0, .aload_n 0, 1), (1, .getfield 40, 3), (4, .lload_n 1, 1), (5, .invokevirtual 81, 3), (8, .ifCond .eq 13, 3), (11, .aload_n 0, 1), (12, .getfield 40, 3), (15, .getfield 85, 3), (18, .goto 5, 3), (21, .bipush (-3), 2), (23, .ireturn, 1)]
theorem ok_X8_feed_0 : (tb_X8_feed_0.all fun q => decide (decode cX8_feed q.1 = .ok q.2)) = true := rdc_all _ 0 _ rfl (by decide +kernel)
def tb_X8_end_0 : List (Nat × Instr × Nat) := [(0, .iload_n 1, 1), (1, .ifCond .lt 14, 3), (4, .iload_n 1, 1), (5, .aload_n 0, 1), (6, .getfield 40, 3), (9, .getfield 85, 3), (12, .if_icmp .le 5, 3), (15, .iconst (-1), 1), (16, .ireturn, 1), (17, .aload_n 0, 1), (18, .getfield 40, 3), (21, .getfield 85, 3), (24, .istore_n 2, 1), (25, .aload_n 0, 1), (26, .getfield 40, 3), (29, .iload_n 1, 1), (30, .putfield 85, 3), (33, .iload_n 2, 1), (34, .ireturn, 1)]
theorem ok_X8_end_0 : (tb_X8_end_0.all fun q => decide (decode cX8_end q.1 = .ok q.2)) = true := rdc_all _ 0 _ rfl (by decide +kernel)
def tb_X8_text_0 : List (Nat × Instr × Nat) := [(0, .aload_n 0, 1), (1, .getfield 49, 3), (4, .invokevirtual 89, 3), (7, .istore_n 1, 1), (8, .aload_n 0, 1), (9, .aload_n 0, 1), (10, .getfield 49, 3), (13, .getfield 93, 3), (16, .putfield 96, 3), (19, .aload_n 0, 1), (20, .getfield 40, 3), (23, .iconst 0, 1), (24, .putfield 85, 3), (27, .aload_n 0, 1), (28, .getfield 96, 3), (31, .ifCond .ne 69, 3), (34, .aload_n 0, 1), (35, .getfield 14, 3), (38, .aload_n 0, 1), (39, .getfield 49, 3), (42, .getfield 99, 3), (45, .invokevirtual 102, 3), (48, .aload_n 0, 1), (49, .getfield 14, 3), (52, .iconst 1, 1), (53, .putfield 106, 3), (56, .aload_n 0, 1), (57, .getfield 18, 3), (60, .aload_n 0, 1), (61, .getfield 49, 3), (64, .getfield 110, 3), (67, .invokevirtual 102, 3), (70, .aload_n 0, 1), (71, .getfield 33, 3), (74, .aload_n 0, 1), (75, .getfield 49, 3), (78, .getfield 113, 3), (81, .invokevirtual 114, 3), (84, .aload_n 0, 1), (85, .getfield 21, 3)]
theorem ok_X8_text_0 : (tb_X8_text_0.all fun q => decide (decode cX8_text q.1 = .ok q.2)) = true := rdc_all _ 0 _ rfl (by decide +kernel)
def tb_X8_text_1 : List (Nat × Instr × Nat) := [(88, .iconst 0, 1), (89, .putfield 106, 3), (92, .aload_n 0, 1), (93, .getfield 24, 3), (96, .iconst 0, 1), (97, .putfield 106, 3), (100, .iload_n 1, 1), (101, .ireturn, 1)]
theorem ok_X8_text_1 : (tb_X8_text_1.all fun q => decide (decode cX8_text q.1 = .ok q.2)) = true := rdc_all _ 0 _ rfl (by decide +kernel)
def tb_X8_fault_0 : List (Nat × Instr × Nat) := [(0, .aload_n 0, 1), (1, .getfield 96, 3), (4, .ireturn, 1)]
theorem ok_X8_fault_0 : (tb_X8_fault_0.all fun q => decide (decode cX8_fault q.1 = .ok q.2)) = true := rdc_all _ 0 _ rfl (by decide +kernel)
def tb_X8_rule_0 : List (Nat × Instr × Nat) := [(0, .iload_n 1, 1), (1, .tableswitch 84 0 4 #[35, 43, 51, 67, 75], 35), (36, .aload_n 0, 1), (37, .getfield 14, 3), (40, .getfield 117, 3), (43, .ireturn, 1), (44, .aload_n 0, 1), (45, .getfield 14, 3), (48, .getfield 120, 3), (51, .ireturn, 1), (52, .aload_n 0, 1), (53, .getfield 18, 3), (56, .getfield 106, 3), (59, .ifCond .eq 7, 3), (62, .iconst 1, 1), (63, .goto 4, 3), (66, .iconst 0, 1), (67, .ireturn, 1), (68, .aload_n 0, 1), (69, .getfield 33, 3), (72, .getfield 123, 3), (75, .ireturn, 1), (76, .aload_n 0, 1), (77, .getfield 14, 3), (80, .iconst 2, 1), (81, .invokevirtual 126, 3), (84, .ireturn, 1), (85, .iconst (-1), 1), (86, .ireturn, 1)]
theorem ok_X8_rule_0 : (tb_X8_rule_0.all fun q => decide (decode cX8_rule q.1 = .ok q.2)) = true := rdc_all _ 0 _ rfl (by decide +kernel)
def tb_X8_day_0 : List (Nat × Instr × Nat) := [(0, .iload_n 1, 1), (1, .ifCond .lt 31, 3), (4, .iload_n 1, 1), (5, .aload_n 0, 1), (6, .getfield 33, 3), (9, .getfield 123, 3), (12, .if_icmp .ge 20, 3), (15, .iload_n 2, 1), (16, .iconst (-1), 1), (17, .if_icmp .lt 15, 3), (20, .iload_n 2, 1), (21, .aload_n 0, 1), (22, .getfield 33, 3), (25, .iload_n 1, 1), (26, .invokevirtual 130, 3), (29, .if_icmp .lt 5, 3), (32, .iconst (-1), 1), (33, .ireturn, 1), (34, .iload_n 2, 1), (35, .iconst (-1), 1), (36, .if_icmp .ne 14, 3), (39, .aload_n 0, 1), (40, .getfield 33, 3), (43, .iload_n 1, 1), (44, .invokevirtual 130, 3), (47, .goto 12, 3), (50, .aload_n 0, 1), (51, .getfield 33, 3), (54, .iload_n 1, 1), (55, .iload_n 2, 1), (56, .invokevirtual 133, 3), (59, .ireturn, 1)]
theorem ok_X8_day_0 : (tb_X8_day_0.all fun q => decide (decode cX8_day q.1 = .ok q.2)) = true := rdc_all _ 0 _ rfl (by decide +kernel)
def tb_X8_cloth_0 : List (Nat × Instr × Nat) := [(0, .iload_n 1, 1), (1, .ifCond .ne 11, 3), (4, .aload_n 0, 1), (5, .getfield 14, 3), (8, .getfield 137, 3), (11, .lreturn, 1), (12, .iload_n 1, 1), (13, .iconst 1, 1), (14, .if_icmp .ne 23, 3), (17, .aload_n 0, 1), (18, .getfield 18, 3), (21, .getfield 106, 3), (24, .ifCond .eq 13, 3), (27, .aload_n 0, 1), (28, .getfield 18, 3), (31, .getfield 137, 3), (34, .goto 4, 3), (37, .lconst 0, 1), (38, .lreturn, 1)]
theorem ok_X8_cloth_0 : (tb_X8_cloth_0.all fun q => decide (decode cX8_cloth q.1 = .ok q.2)) = true := rdc_all _ 0 _ rfl (by decide +kernel)
def tb_X8_square_0 : List (Nat × Instr × Nat) := [(0, .aload_n 0, 1), (1, .getfield 14, 3), (4, .iload_n 1, 1), (5, .iload_n 2, 1), (6, .invokevirtual 141, 3), (9, .ifCond .eq 15, 3), (12, .aload_n 0, 1), (13, .getfield 14, 3), (16, .iload_n 1, 1), (17, .iload_n 2, 1), (18, .invokevirtual 145, 3), (21, .goto 4, 3), (24, .iconst (-1), 1), (25, .ireturn, 1)]
theorem ok_X8_square_0 : (tb_X8_square_0.all fun q => decide (decode cX8_square q.1 = .ok q.2)) = true := rdc_all _ 0 _ rfl (by decide +kernel)
def tb_X8_paint_0 : List (Nat × Instr × Nat) := [(0, .aload_n 0, 1), (1, .getfield 14, 3), (4, .iload_n 1, 1), (5, .iload_n 2, 1), (6, .invokevirtual 141, 3), (9, .ifCond .eq 16, 3), (12, .aload_n 0, 1), (13, .getfield 14, 3), (16, .iload_n 1, 1), (17, .iload_n 2, 1), (18, .iload_n 3, 1), (19, .invokevirtual 148, 3), (22, .goto 4, 3), (25, .iconst (-1), 1), (26, .ireturn, 1)]
theorem ok_X8_paint_0 : (tb_X8_paint_0.all fun q => decide (decode cX8_paint q.1 = .ok q.2)) = true := rdc_all _ 0 _ rfl (by decide +kernel)
def tb_X8_wish_0 : List (Nat × Instr × Nat) := [(0, .aload_n 0, 1), (1, .getfield 14, 3), (4, .iload_n 1, 1), (5, .iload_n 2, 1), (6, .invokevirtual 141, 3), (9, .ifCond .ne 5, 3), (12, .iconst (-1), 1), (13, .ireturn, 1), (14, .aload_n 0, 1), (15, .getfield 18, 3), (18, .getfield 106, 3), (21, .ifCond .eq 16, 3), (24, .aload_n 0, 1), (25, .getfield 18, 3), (28, .iload_n 1, 1), (29, .iload_n 2, 1), (30, .iload_n 3, 1), (31, .invokevirtual 148, 3), (34, .goto 5, 3), (37, .bipush (-2), 2), (39, .ireturn, 1)]
theorem ok_X8_wish_0 : (tb_X8_wish_0.all fun q => decide (decode cX8_wish q.1 = .ok q.2)) = true := rdc_all _ 0 _ rfl (by decide +kernel)
def tb_X8_act_0 : List (Nat × Instr × Nat) := [(0, .aload_n 0, 1), (1, .getfield 14, 3), (4, .iload_n 1, 1), (5, .iload_n 2, 1), (6, .invokevirtual 152, 3), (9, .ifCond .ne 5, 3), (12, .iconst (-1), 1), (13, .ireturn, 1), (14, .aload_n 0, 1), (15, .getfield 14, 3), (18, .dup, 1), (19, .getfield 137, 3), (22, .aload_n 0, 1), (23, .getfield 14, 3), (26, .iload_n 1, 1), (27, .iload_n 2, 1), (28, .invokevirtual 155, 3), (31, .lxor, 1), (32, .putfield 137, 3), (35, .aload_n 0, 1), (36, .getfield 14, 3), (39, .invokevirtual 159, 3), (42, .ireturn, 1)]
theorem ok_X8_act_0 : (tb_X8_act_0.all fun q => decide (decode cX8_act q.1 = .ok q.2)) = true := rdc_all _ 0 _ rfl (by decide +kernel)
def tb_X8_turn_0 : List (Nat × Instr × Nat) := [(0, .iload_n 1, 1), (1, .ifCond .lt 29, 3), (4, .iload_n 1, 1), (5, .aload_n 0, 1), (6, .getfield 14, 3), (9, .invokevirtual 162, 3), (12, .if_icmp .gt 18, 3), (15, .iload_n 2, 1), (16, .ifCond .lt 14, 3), (19, .iload_n 2, 1), (20, .aload_n 0, 1), (21, .getfield 14, 3), (24, .invokevirtual 165, 3), (27, .if_icmp .le 5, 3), (30, .iconst (-1), 1), (31, .ireturn, 1), (32, .aload_n 0, 1), (33, .getfield 14, 3), (36, .dup, 1), (37, .getfield 137, 3), (40, .aload_n 0, 1), (41, .getfield 14, 3), (44, .iload_n 1, 1), (45, .iload_n 2, 1), (46, .invokevirtual 168, 3), (49, .lxor, 1), (50, .putfield 137, 3), (53, .aload_n 0, 1), (54, .getfield 14, 3), (57, .invokevirtual 159, 3), (60, .ireturn, 1)]
theorem ok_X8_turn_0 : (tb_X8_turn_0.all fun q => decide (decode cX8_turn q.1 = .ok q.2)) = true := rdc_all _ 0 _ rfl (by decide +kernel)
def tb_X8_go_0 : List (Nat × Instr × Nat) := [(0, .iload_n 1, 1), (1, .ifCond .lt 14, 3), (4, .iload_n 1, 1), (5, .aload_n 0, 1), (6, .getfield 33, 3), (9, .getfield 123, 3), (12, .if_icmp .le 5, 3), (15, .iconst (-1), 1), (16, .ireturn, 1), (17, .iconst 0, 1), (18, .istore_n 2, 1), (19, .iload_n 2, 1), (20, .iload_n 1, 1), (21, .if_icmp .ge 66, 3), (24, .iconst 0, 1), (25, .istore_n 3, 1), (26, .iload_n 3, 1), (27, .aload_n 0, 1), (28, .getfield 33, 3), (31, .iload_n 2, 1), (32, .invokevirtual 130, 3), (35, .if_icmp .ge 46, 3), (38, .aload_n 0, 1), (39, .getfield 14, 3), (42, .dup, 1), (43, .getfield 137, 3), (46, .aload_n 0, 1), (47, .getfield 14, 3), (50, .aload_n 0, 1), (51, .getfield 33, 3), (54, .iload_n 2, 1), (55, .iload_n 3, 1), (56, .invokevirtual 171, 3), (59, .aload_n 0, 1), (60, .getfield 33, 3), (63, .iload_n 2, 1), (64, .iload_n 3, 1), (65, .invokevirtual 174, 3), (68, .invokevirtual 155, 3), (71, .lxor, 1)]
theorem ok_X8_go_0 : (tb_X8_go_0.all fun q => decide (decode cX8_go q.1 = .ok q.2)) = true := rdc_all _ 0 _ rfl (by decide +kernel)
def tb_X8_go_1 : List (Nat × Instr × Nat) := [(72, .putfield 137, 3), (75, .iinc 3 1, 3), (78, .goto (-52), 3), (81, .iinc 2 1, 3), (84, .goto (-65), 3), (87, .aload_n 0, 1), (88, .getfield 14, 3), (91, .invokevirtual 159, 3), (94, .ireturn, 1)]
theorem ok_X8_go_1 : (tb_X8_go_1.all fun q => decide (decode cX8_go q.1 = .ok q.2)) = true := rdc_all _ 0 _ rfl (by decide +kernel)
def tb_X8_form_0 : List (Nat × Instr × Nat) := [(0, .iload_n 1, 1), (1, .ifCond .ne 18, 3), (4, .aload_n 0, 1), (5, .getfield 14, 3), (8, .aload_n 0, 1), (9, .getfield 14, 3), (12, .getfield 137, 3), (15, .invokevirtual 177, 3), (18, .lreturn, 1), (19, .iload_n 1, 1), (20, .iconst 1, 1), (21, .if_icmp .ne 30, 3), (24, .aload_n 0, 1), (25, .getfield 18, 3), (28, .getfield 106, 3), (31, .ifCond .eq 20, 3), (34, .aload_n 0, 1), (35, .getfield 18, 3), (38, .aload_n 0, 1), (39, .getfield 18, 3), (42, .getfield 137, 3), (45, .invokevirtual 177, 3), (48, .goto 6, 3), (51, .ldc2_w 181, 3), (54, .lreturn, 1)]
theorem ok_X8_form_0 : (tb_X8_form_0.all fun q => decide (decode cX8_form q.1 = .ok q.2)) = true := rdc_all _ 0 _ rfl (by decide +kernel)
def tb_X8_forms_0 : List (Nat × Instr × Nat) := [(0, .lconst 1, 1), (1, .aload_n 0, 1), (2, .getfield 14, 3), (5, .getfield 117, 3), (8, .iconst 1, 1), (9, .isub, 1), (10, .aload_n 0, 1), (11, .getfield 14, 3), (14, .getfield 120, 3), (17, .iconst 1, 1), (18, .isub, 1), (19, .imul, 1), (20, .lshl, 1), (21, .lreturn, 1)]
theorem ok_X8_forms_0 : (tb_X8_forms_0.all fun q => decide (decode cX8_forms q.1 = .ok q.2)) = true := rdc_all _ 0 _ rfl (by decide +kernel)
def tb_X8_alike_0 : List (Nat × Instr × Nat) := [(0, .aload_n 0, 1), (1, .iload_n 1, 1), (2, .invokevirtual 183, 3), (5, .astore_n 2, 1), (6, .aload_n 2, 1), (7, .ifnonnull 5, 3), (10, .iconst (-1), 1), (11, .ireturn, 1), (12, .aload_n 2, 1), (13, .getfield 106, 3), (16, .ifCond .ne 6, 3), (19, .bipush (-2), 2), (21, .ireturn, 1), (22, .aload_n 2, 1), (23, .aload_n 0, 1), (24, .getfield 14, 3), (27, .invokevirtual 187, 3), (30, .ifCond .eq 31, 3), (33, .aload_n 0, 1), (34, .getfield 14, 3), (37, .aload_n 0, 1), (38, .getfield 14, 3), (41, .getfield 137, 3), (44, .aload_n 2, 1), (45, .getfield 137, 3), (48, .lxor, 1), (49, .invokevirtual 177, 3), (52, .lconst 0, 1), (53, .lcmp, 1), (54, .ifCond .ne 7, 3), (57, .iconst 1, 1), (58, .goto 4, 3), (61, .iconst 0, 1), (62, .ireturn, 1)]
theorem ok_X8_alike_0 : (tb_X8_alike_0.all fun q => decide (decode cX8_alike q.1 = .ok q.2)) = true := rdc_all _ 0 _ rfl (by decide +kernel)
def tb_X8_plan_0 : List (Nat × Instr × Nat) := [(0, .iload_n 1, 1), (1, .ifCond .lt 8, 3), (4, .iload_n 1, 1), (5, .iconst 3, 1), (6, .if_icmp .le 5, 3), (9, .iconst (-1), 1), (10, .ireturn, 1), (11, .aload_n 0, 1), (12, .getfield 18, 3), (15, .getfield 106, 3), (18, .ifCond .ne 6, 3), (21, .bipush (-2), 2), (23, .ireturn, 1), (24, .aload_n 0, 1), (25, .getfield 63, 3), (28, .aload_n 0, 1), (29, .getfield 14, 3), (32, .aload_n 0, 1), (33, .getfield 14, 3), (36, .getfield 137, 3), (39, .aload_n 0, 1), (40, .getfield 18, 3), (43, .getfield 137, 3), (46, .lxor, 1), (47, .invokevirtual 191, 3), (50, .aload_n 0, 1), (51, .getfield 63, 3), (54, .getfield 195, 3), (57, .ifCond .ne 6, 3), (60, .bipush (-4), 2), (62, .ireturn, 1), (63, .iload_n 1, 1), (64, .iconst 3, 1), (65, .if_icmp .ne 27, 3), (68, .aload_n 0, 1), (69, .getfield 63, 3), (72, .getfield 198, 3), (75, .invokestatic 201, 3), (78, .aload_n 0, 1), (79, .getfield 63, 3)]
theorem ok_X8_plan_0 : (tb_X8_plan_0.all fun q => decide (decode cX8_plan q.1 = .ok q.2)) = true := rdc_all _ 0 _ rfl (by decide +kernel)
def tb_X8_plan_1 : List (Nat × Instr × Nat) := [(82, .getfield 206, 3), (85, .invokestatic 201, 3), (88, .invokestatic 209, 3), (91, .ireturn, 1), (92, .aload_n 0, 1), (93, .iload_n 1, 1), (94, .aload_n 0, 1), (95, .getfield 63, 3), (98, .invokevirtual 214, 3), (101, .invokevirtual 217, 3), (104, .ireturn, 1)]
theorem ok_X8_plan_1 : (tb_X8_plan_1.all fun q => decide (decode cX8_plan q.1 = .ok q.2)) = true := rdc_all _ 0 _ rfl (by decide +kernel)
def tb_X8_nearest_0 : List (Nat × Instr × Nat) := [(0, .iload_n 1, 1), (1, .ifCond .lt 8, 3), (4, .iload_n 1, 1), (5, .iconst 2, 1), (6, .if_icmp .le 5, 3), (9, .iconst (-1), 1), (10, .ireturn, 1), (11, .aload_n 0, 1), (12, .getfield 18, 3), (15, .getfield 106, 3), (18, .ifCond .ne 6, 3), (21, .bipush (-2), 2), (23, .ireturn, 1), (24, .aload_n 0, 1), (25, .getfield 63, 3), (28, .aload_n 0, 1), (29, .getfield 14, 3), (32, .aload_n 0, 1), (33, .getfield 14, 3), (36, .getfield 137, 3), (39, .aload_n 0, 1), (40, .getfield 18, 3), (43, .getfield 137, 3), (46, .lxor, 1), (47, .invokevirtual 220, 3), (50, .aload_n 0, 1), (51, .iload_n 1, 1), (52, .aload_n 0, 1), (53, .getfield 63, 3), (56, .getfield 223, 3), (59, .invokevirtual 217, 3), (62, .ireturn, 1)]
theorem ok_X8_nearest_0 : (tb_X8_nearest_0.all fun q => decide (decode cX8_nearest q.1 = .ok q.2)) = true := rdc_all _ 0 _ rfl (by decide +kernel)
def tb_X8_lightest_0 : List (Nat × Instr × Nat) := [(0, .iload_n 1, 1), (1, .ifCond .lt 8, 3), (4, .iload_n 1, 1), (5, .iconst 2, 1), (6, .if_icmp .le 5, 3), (9, .iconst (-1), 1), (10, .ireturn, 1), (11, .aload_n 0, 1), (12, .getfield 63, 3), (15, .aload_n 0, 1), (16, .getfield 14, 3), (19, .aload_n 0, 1), (20, .getfield 14, 3), (23, .getfield 137, 3), (26, .invokevirtual 220, 3), (29, .aload_n 0, 1), (30, .iload_n 1, 1), (31, .aload_n 0, 1), (32, .getfield 63, 3), (35, .getfield 223, 3), (38, .invokevirtual 217, 3), (41, .ireturn, 1)]
theorem ok_X8_lightest_0 : (tb_X8_lightest_0.all fun q => decide (decode cX8_lightest q.1 = .ok q.2)) = true := rdc_all _ 0 _ rfl (by decide +kernel)
def tb_X8_blind_0 : List (Nat × Instr × Nat) := [(0, .iload_n 1, 1), (1, .ifCond .lt 8, 3), (4, .iload_n 1, 1), (5, .iconst 1, 1), (6, .if_icmp .le 5, 3), (9, .iconst (-1), 1), (10, .ireturn, 1), (11, .aload_n 0, 1), (12, .getfield 18, 3), (15, .getfield 106, 3), (18, .ifCond .ne 6, 3), (21, .bipush (-2), 2), (23, .ireturn, 1), (24, .aload_n 0, 1), (25, .getfield 63, 3), (28, .aload_n 0, 1), (29, .getfield 14, 3), (32, .aload_n 0, 1), (33, .getfield 14, 3), (36, .getfield 137, 3), (39, .aload_n 0, 1), (40, .getfield 18, 3), (43, .getfield 137, 3), (46, .lxor, 1), (47, .invokevirtual 226, 3), (50, .iload_n 1, 1), (51, .iconst 1, 1), (52, .if_icmp .ne 11, 3), (55, .aload_n 0, 1), (56, .getfield 63, 3), (59, .getfield 223, 3), (62, .ireturn, 1), (63, .aload_n 0, 1), (64, .getfield 63, 3), (67, .getfield 195, 3), (70, .ifCond .eq 13, 3), (73, .aload_n 0, 1), (74, .getfield 63, 3), (77, .getfield 229, 3), (80, .goto 5, 3)]
theorem ok_X8_blind_0 : (tb_X8_blind_0.all fun q => decide (decode cX8_blind q.1 = .ok q.2)) = true := rdc_all _ 0 _ rfl (by decide +kernel)
def tb_X8_blind_1 : List (Nat × Instr × Nat) := [(83, .bipush (-4), 2), (85, .ireturn, 1)]
theorem ok_X8_blind_1 : (tb_X8_blind_1.all fun q => decide (decode cX8_blind q.1 = .ok q.2)) = true := rdc_all _ 0 _ rfl (by decide +kernel)
def tb_X8_slanted_0 : List (Nat × Instr × Nat) := [(0, .iload_n 1, 1), (1, .ifCond .lt 8, 3), (4, .iload_n 1, 1), (5, .iconst 3, 1), (6, .if_icmp .le 5, 3), (9, .iconst (-1), 1), (10, .ireturn, 1), (11, .aload_n 0, 1), (12, .getfield 18, 3), (15, .getfield 106, 3), (18, .ifCond .eq 23, 3), (21, .aload_n 0, 1), (22, .getfield 14, 3), (25, .getfield 117, 3), (28, .aload_n 0, 1), (29, .getfield 14, 3), (32, .getfield 120, 3), (35, .iadd, 1), (36, .bipush 10, 2), (38, .if_icmp .le 6, 3), (41, .bipush (-2), 2), (43, .ireturn, 1), (44, .aload_n 0, 1), (45, .getfield 63, 3), (48, .aload_n 0, 1), (49, .getfield 14, 3), (52, .aload_n 0, 1), (53, .getfield 14, 3), (56, .getfield 137, 3), (59, .aload_n 0, 1), (60, .getfield 18, 3), (63, .getfield 137, 3), (66, .lxor, 1), (67, .invokevirtual 231, 3), (70, .aload_n 0, 1), (71, .getfield 63, 3), (74, .getfield 195, 3), (77, .ifCond .eq 18, 3), (80, .aload_n 0, 1), (81, .iload_n 1, 1)]
theorem ok_X8_slanted_0 : (tb_X8_slanted_0.all fun q => decide (decode cX8_slanted q.1 = .ok q.2)) = true := rdc_all _ 0 _ rfl (by decide +kernel)
def tb_X8_slanted_1 : List (Nat × Instr × Nat) := [(82, .aload_n 0, 1), (83, .getfield 63, 3), (86, .invokevirtual 214, 3), (89, .invokevirtual 217, 3), (92, .goto 5, 3), (95, .bipush (-4), 2), (97, .ireturn, 1)]
theorem ok_X8_slanted_1 : (tb_X8_slanted_1.all fun q => decide (decode cX8_slanted q.1 = .ok q.2)) = true := rdc_all _ 0 _ rfl (by decide +kernel)
def tb_X8_power_0 : List (Nat × Instr × Nat) := [(0, .iload_n 1, 1), (1, .ifCond .ne 9, 3), (4, .aload_n 0, 1), (5, .iconst 1, 1), (6, .invokevirtual 234, 3), (9, .ireturn, 1), (10, .iload_n 1, 1), (11, .iconst 1, 1), (12, .if_icmp .ne 11, 3), (15, .aload_n 0, 1), (16, .iconst 2, 1), (17, .invokevirtual 234, 3), (20, .goto 4, 3), (23, .iconst (-1), 1), (24, .ireturn, 1)]
theorem ok_X8_power_0 : (tb_X8_power_0.all fun q => decide (decode cX8_power q.1 = .ok q.2)) = true := rdc_all _ 0 _ rfl (by decide +kernel)
def tb_X8_duel_0 : List (Nat × Instr × Nat) := [(0, .iload_n 1, 1), (1, .iconst 1, 1), (2, .if_icmp .lt 17, 3), (5, .iload_n 1, 1), (6, .iconst 4, 1), (7, .if_icmp .gt 12, 3), (10, .iload_n 3, 1), (11, .ifCond .lt 8, 3), (14, .iload_n 3, 1), (15, .iconst 1, 1), (16, .if_icmp .le 5, 3), (19, .iconst (-1), 1), (20, .ireturn, 1), (21, .iload_n 2, 1), (22, .ifCond .eq 7, 3), (25, .iconst 0, 1), (26, .goto 4, 3), (29, .iconst 1, 1), (30, .istore 4, 2), (32, .bipush 8, 2), (34, .istore 5, 2), (36, .iconst 0, 1), (37, .istore 6, 2), (39, .iconst 0, 1), (40, .istore 7, 2), (42, .iload 7, 2), (44, .aload_n 0, 1), (45, .getfield 14, 3), (48, .iload 4, 2), (50, .invokevirtual 126, 3), (53, .if_icmp .ge 75, 3), (56, .aload_n 0, 1), (57, .getfield 14, 3), (60, .aload_n 0, 1), (61, .getfield 14, 3), (64, .getfield 137, 3), (67, .aload_n 0, 1), (68, .getfield 14, 3), (71, .iload 4, 2), (73, .iload 7, 2)]
theorem ok_X8_duel_0 : (tb_X8_duel_0.all fun q => decide (decode cX8_duel q.1 = .ok q.2)) = true := rdc_all _ 0 _ rfl (by decide +kernel)
def tb_X8_duel_1 : List (Nat × Instr × Nat) := [(75, .invokevirtual 155, 3), (78, .lxor, 1), (79, .iload_n 1, 1), (80, .iconst 1, 1), (81, .isub, 1), (82, .iload_n 2, 1), (83, .ifCond .ne 7, 3), (86, .iconst 1, 1), (87, .goto 4, 3), (90, .iconst 0, 1), (91, .invokestatic 237, 3), (94, .istore 8, 2), (96, .iload 5, 2), (98, .bipush 8, 2), (100, .if_icmp .eq 14, 3), (103, .iload_n 2, 1), (104, .iload 8, 2), (106, .iload 6, 2), (108, .invokestatic 241, 3), (111, .ifCond .eq 11, 3), (114, .iload 7, 2), (116, .istore 5, 2), (118, .iload 8, 2), (120, .istore 6, 2), (122, .iinc 7 1, 3), (125, .goto (-83), 3), (128, .aload_n 0, 1), (129, .getfield 14, 3), (132, .aload_n 0, 1), (133, .getfield 14, 3), (136, .getfield 137, 3), (139, .iload_n 1, 1), (140, .iconst 1, 1), (141, .isub, 1), (142, .iload_n 2, 1), (143, .ifCond .ne 7, 3), (146, .iconst 1, 1), (147, .goto 4, 3), (150, .iconst 0, 1), (151, .invokestatic 237, 3)]
theorem ok_X8_duel_1 : (tb_X8_duel_1.all fun q => decide (decode cX8_duel q.1 = .ok q.2)) = true := rdc_all _ 0 _ rfl (by decide +kernel)
def tb_X8_duel_2 : List (Nat × Instr × Nat) := [(154, .istore 7, 2), (156, .iload_n 2, 1), (157, .iload 7, 2), (159, .iload 6, 2), (161, .invokestatic 241, 3), (164, .ifCond .eq 11, 3), (167, .bipush 8, 2), (169, .istore 5, 2), (171, .iload 7, 2), (173, .istore 6, 2), (175, .iload_n 3, 1), (176, .ifCond .ne 8, 3), (179, .iload 6, 2), (181, .goto 5, 3), (184, .iload 5, 2), (186, .ireturn, 1)]
theorem ok_X8_duel_2 : (tb_X8_duel_2.all fun q => decide (decode cX8_duel q.1 = .ok q.2)) = true := rdc_all _ 0 _ rfl (by decide +kernel)
def tb_X8_turned_0 : List (Nat × Instr × Nat) := [(0, .aload_n 0, 1), (1, .iload_n 1, 1), (2, .invokevirtual 183, 3), (5, .astore_n 3, 1), (6, .aload_n 3, 1), (7, .ifnull 12, 3), (10, .iload_n 2, 1), (11, .ifCond .lt 8, 3), (14, .iload_n 2, 1), (15, .iconst 2, 1), (16, .if_icmp .le 5, 3), (19, .iconst (-1), 1), (20, .ireturn, 1), (21, .aload_n 3, 1), (22, .getfield 106, 3), (25, .ifCond .eq 14, 3), (28, .aload_n 3, 1), (29, .aload_n 0, 1), (30, .getfield 14, 3), (33, .invokevirtual 187, 3), (36, .ifCond .ne 6, 3), (39, .bipush (-2), 2), (41, .ireturn, 1), (42, .aload_n 0, 1), (43, .getfield 63, 3), (46, .aload_n 0, 1), (47, .getfield 14, 3), (50, .aload_n 0, 1), (51, .getfield 14, 3), (54, .getfield 137, 3), (57, .aload_n 3, 1), (58, .getfield 137, 3), (61, .lxor, 1), (62, .invokevirtual 191, 3), (65, .aload_n 0, 1), (66, .getfield 63, 3), (69, .getfield 195, 3), (72, .ifCond .eq 18, 3), (75, .aload_n 0, 1), (76, .iload_n 2, 1)]
theorem ok_X8_turned_0 : (tb_X8_turned_0.all fun q => decide (decode cX8_turned q.1 = .ok q.2)) = true := rdc_all _ 0 _ rfl (by decide +kernel)
def tb_X8_turned_1 : List (Nat × Instr × Nat) := [(77, .aload_n 0, 1), (78, .getfield 63, 3), (81, .invokevirtual 214, 3), (84, .invokevirtual 217, 3), (87, .goto 5, 3), (90, .bipush (-4), 2), (92, .ireturn, 1)]
theorem ok_X8_turned_1 : (tb_X8_turned_1.all fun q => decide (decode cX8_turned q.1 = .ok q.2)) = true := rdc_all _ 0 _ rfl (by decide +kernel)
def tb_X8_spoilt_0 : List (Nat × Instr × Nat) := [(0, .iload_n 1, 1), (1, .ifCond .lt 8, 3), (4, .iload_n 1, 1), (5, .iconst 1, 1), (6, .if_icmp .le 5, 3), (9, .iconst (-1), 1), (10, .ireturn, 1), (11, .aload_n 0, 1), (12, .getfield 18, 3), (15, .getfield 106, 3), (18, .ifCond .ne 6, 3), (21, .bipush (-2), 2), (23, .ireturn, 1), (24, .aload_n 0, 1), (25, .getfield 63, 3), (28, .aload_n 0, 1), (29, .getfield 14, 3), (32, .aload_n 0, 1), (33, .getfield 14, 3), (36, .getfield 137, 3), (39, .aload_n 0, 1), (40, .getfield 18, 3), (43, .getfield 137, 3), (46, .lxor, 1), (47, .invokevirtual 245, 3), (50, .aload_n 0, 1), (51, .iload_n 1, 1), (52, .invokevirtual 248, 3), (55, .ireturn, 1)]
theorem ok_X8_spoilt_0 : (tb_X8_spoilt_0.all fun q => decide (decode cX8_spoilt q.1 = .ok q.2)) = true := rdc_all _ 0 _ rfl (by decide +kernel)
def tb_X8_both_0 : List (Nat × Instr × Nat) := [(0, .iload_n 1, 1), (1, .ifCond .lt 8, 3), (4, .iload_n 1, 1), (5, .iconst 1, 1), (6, .if_icmp .le 5, 3), (9, .iconst (-1), 1), (10, .ireturn, 1), (11, .aload_n 0, 1), (12, .getfield 18, 3), (15, .getfield 106, 3), (18, .ifCond .ne 6, 3), (21, .bipush (-2), 2), (23, .ireturn, 1), (24, .aload_n 0, 1), (25, .getfield 63, 3), (28, .aload_n 0, 1), (29, .getfield 14, 3), (32, .aload_n 0, 1), (33, .getfield 14, 3), (36, .getfield 137, 3), (39, .aload_n 0, 1), (40, .getfield 18, 3), (43, .getfield 137, 3), (46, .lxor, 1), (47, .invokevirtual 251, 3), (50, .aload_n 0, 1), (51, .iload_n 1, 1), (52, .invokevirtual 248, 3), (55, .ireturn, 1)]
theorem ok_X8_both_0 : (tb_X8_both_0.all fun q => decide (decode cX8_both q.1 = .ok q.2)) = true := rdc_all _ 0 _ rfl (by decide +kernel)
def tb_X8_rotate_0 : List (Nat × Instr × Nat) := [(0, .iload_n 1, 1), (1, .ifCond .lt 9, 3), (4, .iload_n 1, 1), (5, .bipush 8, 2), (7, .if_icmp .lt 5, 3), (10, .iconst (-1), 1), (11, .ireturn, 1), (12, .aload_n 0, 1), (13, .getfield 14, 3), (16, .iload_n 1, 1), (17, .invokevirtual 254, 3), (20, .aload_n 0, 1), (21, .getfield 18, 3), (24, .iload_n 1, 1), (25, .invokevirtual 254, 3), (28, .aload_n 0, 1), (29, .getfield 33, 3), (32, .invokevirtual 258, 3), (35, .aload_n 0, 1), (36, .getfield 14, 3), (39, .getfield 117, 3), (42, .ireturn, 1)]
theorem ok_X8_rotate_0 : (tb_X8_rotate_0.all fun q => decide (decode cX8_rotate q.1 = .ok q.2)) = true := rdc_all _ 0 _ rfl (by decide +kernel)
def tb_X8_cut_0 : List (Nat × Instr × Nat) := [(0, .iload_n 1, 1), (1, .iload_n 2, 1), (2, .aload_n 0, 1), (3, .getfield 14, 3), (6, .getfield 117, 3), (9, .invokestatic 261, 3), (12, .ifCond .eq 19, 3), (15, .iload_n 3, 1), (16, .iload 4, 2), (18, .aload_n 0, 1), (19, .getfield 14, 3), (22, .getfield 120, 3), (25, .invokestatic 261, 3), (28, .ifCond .ne 5, 3), (31, .iconst (-1), 1), (32, .ireturn, 1), (33, .aload_n 0, 1), (34, .getfield 14, 3), (37, .iload_n 2, 1), (38, .iload 4, 2), (40, .aload_n 0, 1), (41, .getfield 14, 3), (44, .getfield 137, 3), (47, .bipush 8, 2), (49, .iload_n 1, 1), (50, .imul, 1), (51, .iload_n 3, 1), (52, .iadd, 1), (53, .lushr, 1), (54, .invokevirtual 265, 3), (57, .aload_n 0, 1), (58, .invokevirtual 269, 3), (61, .aload_n 0, 1), (62, .getfield 14, 3), (65, .invokevirtual 159, 3), (68, .ireturn, 1)]
theorem ok_X8_cut_0 : (tb_X8_cut_0.all fun q => decide (decode cX8_cut q.1 = .ok q.2)) = true := rdc_all _ 0 _ rfl (by decide +kernel)
def tb_X8_sew_0 : List (Nat × Instr × Nat) := [(0, .aload_n 0, 1), (1, .iload_n 1, 1), (2, .invokevirtual 183, 3), (5, .astore_n 3, 1), (6, .aload_n 3, 1), (7, .ifnonnull 5, 3), (10, .iconst (-1), 1), (11, .ireturn, 1), (12, .aload_n 3, 1), (13, .getfield 106, 3), (16, .ifCond .eq 38, 3), (19, .iload_n 2, 1), (20, .ifCond .eq 20, 3), (23, .aload_n 3, 1), (24, .getfield 120, 3), (27, .aload_n 0, 1), (28, .getfield 14, 3), (31, .getfield 120, 3), (34, .if_icmp .eq 23, 3), (37, .goto 17, 3), (40, .aload_n 3, 1), (41, .getfield 117, 3), (44, .aload_n 0, 1), (45, .getfield 14, 3), (48, .getfield 117, 3), (51, .if_icmp .eq 6, 3), (54, .bipush (-2), 2), (56, .ireturn, 1), (57, .iload_n 2, 1), (58, .ifCond .eq 18, 3), (61, .aload_n 0, 1), (62, .getfield 14, 3), (65, .getfield 117, 3), (68, .aload_n 3, 1), (69, .getfield 117, 3), (72, .iadd, 1), (73, .goto 10, 3), (76, .aload_n 0, 1), (77, .getfield 14, 3), (80, .getfield 117, 3)]
theorem ok_X8_sew_0 : (tb_X8_sew_0.all fun q => decide (decode cX8_sew q.1 = .ok q.2)) = true := rdc_all _ 0 _ rfl (by decide +kernel)
def tb_X8_sew_1 : List (Nat × Instr × Nat) := [(83, .istore 4, 2), (85, .iload_n 2, 1), (86, .ifCond .eq 13, 3), (89, .aload_n 0, 1), (90, .getfield 14, 3), (93, .getfield 120, 3), (96, .goto 15, 3), (99, .aload_n 0, 1), (100, .getfield 14, 3), (103, .getfield 120, 3), (106, .aload_n 3, 1), (107, .getfield 120, 3), (110, .iadd, 1), (111, .istore 5, 2), (113, .iload 4, 2), (115, .bipush 8, 2), (117, .if_icmp .gt 10, 3), (120, .iload 5, 2), (122, .bipush 8, 2), (124, .if_icmp .le 6, 3), (127, .bipush (-3), 2), (129, .ireturn, 1), (130, .aload_n 3, 1), (131, .getfield 137, 3), (134, .iload_n 2, 1), (135, .ifCond .eq 16, 3), (138, .bipush 8, 2), (140, .aload_n 0, 1), (141, .getfield 14, 3), (144, .getfield 117, 3), (147, .imul, 1), (148, .goto 10, 3), (151, .aload_n 0, 1), (152, .getfield 14, 3), (155, .getfield 120, 3), (158, .lshl, 1), (159, .lstore 6, 2), (161, .aload_n 0, 1), (162, .getfield 14, 3), (165, .iload 4, 2)]
theorem ok_X8_sew_1 : (tb_X8_sew_1.all fun q => decide (decode cX8_sew q.1 = .ok q.2)) = true := rdc_all _ 0 _ rfl (by decide +kernel)
def tb_X8_sew_2 : List (Nat × Instr × Nat) := [(167, .iload 5, 2), (169, .aload_n 0, 1), (170, .getfield 14, 3), (173, .getfield 137, 3), (176, .lload 6, 2), (178, .lor, 1), (179, .invokevirtual 265, 3), (182, .aload_n 0, 1), (183, .invokevirtual 269, 3), (186, .aload_n 0, 1), (187, .getfield 14, 3), (190, .invokevirtual 159, 3), (193, .ireturn, 1)]
theorem ok_X8_sew_2 : (tb_X8_sew_2.all fun q => decide (decode cX8_sew q.1 = .ok q.2)) = true := rdc_all _ 0 _ rfl (by decide +kernel)
def tb_X8_name_0 : List (Nat × Instr × Nat) := [(0, .iload_n 1, 1), (1, .ifCond .lt 8, 3), (4, .iload_n 1, 1), (5, .iconst 1, 1), (6, .if_icmp .le 7, 3), (9, .ldc2_w 181, 3), (12, .lreturn, 1), (13, .aload_n 0, 1), (14, .getfield 70, 3), (17, .aload_n 0, 1), (18, .getfield 14, 3), (21, .aload_n 0, 1), (22, .getfield 27, 3), (25, .invokevirtual 272, 3), (28, .iload_n 1, 1), (29, .ifCond .ne 13, 3), (32, .aload_n 0, 1), (33, .getfield 70, 3), (36, .getfield 276, 3), (39, .goto 11, 3), (42, .aload_n 0, 1), (43, .getfield 70, 3), (46, .getfield 279, 3), (49, .i2l, 1), (50, .lreturn, 1)]
theorem ok_X8_name_0 : (tb_X8_name_0.all fun q => decide (decode cX8_name q.1 = .ok q.2)) = true := rdc_all _ 0 _ rfl (by decide +kernel)
def tb_X8_cousin_0 : List (Nat × Instr × Nat) := [(0, .aload_n 0, 1), (1, .iload_n 1, 1), (2, .invokevirtual 183, 3), (5, .astore_n 2, 1), (6, .aload_n 2, 1), (7, .ifnonnull 5, 3), (10, .iconst (-1), 1), (11, .ireturn, 1), (12, .aload_n 2, 1), (13, .getfield 106, 3), (16, .ifCond .ne 6, 3), (19, .bipush (-2), 2), (21, .ireturn, 1), (22, .aload_n 0, 1), (23, .getfield 70, 3), (26, .aload_n 0, 1), (27, .getfield 14, 3), (30, .aload_n 0, 1), (31, .getfield 27, 3), (34, .invokevirtual 272, 3), (37, .aload_n 0, 1), (38, .getfield 74, 3), (41, .aload_n 2, 1), (42, .aload_n 0, 1), (43, .getfield 27, 3), (46, .invokevirtual 272, 3), (49, .aload_n 0, 1), (50, .getfield 70, 3), (53, .aload_n 0, 1), (54, .getfield 74, 3), (57, .invokevirtual 282, 3), (60, .ifCond .eq 7, 3), (63, .iconst 1, 1), (64, .goto 4, 3), (67, .iconst 0, 1), (68, .ireturn, 1)]
theorem ok_X8_cousin_0 : (tb_X8_cousin_0.all fun q => decide (decode cX8_cousin q.1 = .ok q.2)) = true := rdc_all _ 0 _ rfl (by decide +kernel)
def tb_X8_keep_0 : List (Nat × Instr × Nat) := [(0, .aload_n 0, 1), (1, .iload_n 1, 1), (2, .invokevirtual 183, 3), (5, .astore_n 2, 1), (6, .aload_n 2, 1), (7, .ifnonnull 5, 3), (10, .iconst (-1), 1), (11, .ireturn, 1), (12, .aload_n 2, 1), (13, .getfield 106, 3), (16, .ifCond .eq 7, 3), (19, .iconst 1, 1), (20, .goto 4, 3), (23, .iconst 0, 1), (24, .istore_n 3, 1), (25, .aload_n 2, 1), (26, .aload_n 0, 1), (27, .getfield 14, 3), (30, .invokevirtual 102, 3), (33, .iload_n 3, 1), (34, .ireturn, 1)]
theorem ok_X8_keep_0 : (tb_X8_keep_0.all fun q => decide (decode cX8_keep q.1 = .ok q.2)) = true := rdc_all _ 0 _ rfl (by decide +kernel)
def tb_X8_back_0 : List (Nat × Instr × Nat) := [(0, .aload_n 0, 1), (1, .iload_n 1, 1), (2, .invokevirtual 183, 3), (5, .astore_n 2, 1), (6, .aload_n 2, 1), (7, .ifnonnull 5, 3), (10, .iconst (-1), 1), (11, .ireturn, 1), (12, .aload_n 2, 1), (13, .getfield 106, 3), (16, .ifCond .ne 6, 3), (19, .bipush (-2), 2), (21, .ireturn, 1), (22, .aload_n 2, 1), (23, .aload_n 0, 1), (24, .getfield 14, 3), (27, .invokevirtual 187, 3), (30, .ifCond .ne 7, 3), (33, .aload_n 0, 1), (34, .invokevirtual 269, 3), (37, .aload_n 0, 1), (38, .getfield 14, 3), (41, .aload_n 2, 1), (42, .invokevirtual 102, 3), (45, .aload_n 0, 1), (46, .getfield 14, 3), (49, .invokevirtual 159, 3), (52, .ireturn, 1)]
theorem ok_X8_back_0 : (tb_X8_back_0.all fun q => decide (decode cX8_back q.1 = .ok q.2)) = true := rdc_all _ 0 _ rfl (by decide +kernel)
def tb_X8_sheet_0 : List (Nat × Instr × Nat) := [(0, .aload_n 0, 1), (1, .getfield 56, 3), (4, .iload_n 1, 1), (5, .invokevirtual 286, 3), (8, .astore 4, 2), (10, .aload 4, 2), (12, .ifnull 16, 3), (15, .iload_n 2, 1), (16, .invokestatic 290, 3), (19, .ifCond .eq 9, 3), (22, .iload_n 3, 1), (23, .bipush 40, 2), (25, .if_icmp .le 5, 3), (28, .iconst (-1), 1), (29, .ireturn, 1), (30, .iload_n 3, 1), (31, .ifCond .ge 6, 3), (34, .bipush (-14), 2), (36, .ireturn, 1), (37, .aload 4, 2), (39, .iload_n 2, 1), (40, .iload_n 3, 1), (41, .invokevirtual 296, 3), (44, .iconst 1, 1), (45, .ireturn, 1)]
theorem ok_X8_sheet_0 : (tb_X8_sheet_0.all fun q => decide (decode cX8_sheet q.1 = .ok q.2)) = true := rdc_all _ 0 _ rfl (by decide +kernel)
def tb_X8_lay_0 : List (Nat × Instr × Nat) := [(0, .aload_n 0, 1), (1, .getfield 56, 3), (4, .iload_n 1, 1), (5, .invokevirtual 286, 3), (8, .astore 4, 2), (10, .aload 4, 2), (12, .ifnonnull 5, 3), (15, .iconst (-1), 1), (16, .ireturn, 1), (17, .aload 4, 2), (19, .invokevirtual 300, 3), (22, .ifCond .eq 6, 3), (25, .bipush (-11), 2), (27, .ireturn, 1), (28, .aload 4, 2), (30, .iload_n 2, 1), (31, .iload_n 3, 1), (32, .invokevirtual 304, 3), (35, .ifCond .eq 7, 3), (38, .iconst 1, 1), (39, .goto 5, 3), (42, .bipush (-12), 2), (44, .ireturn, 1)]
theorem ok_X8_lay_0 : (tb_X8_lay_0.all fun q => decide (decode cX8_lay q.1 = .ok q.2)) = true := rdc_all _ 0 _ rfl (by decide +kernel)
def tb_X8_read_0 : List (Nat × Instr × Nat) := [(0, .aload_n 0, 1), (1, .getfield 56, 3), (4, .iload_n 1, 1), (5, .invokevirtual 286, 3), (8, .astore 5, 2), (10, .aload 5, 2), (12, .ifnull 22, 3), (15, .iload_n 2, 1), (16, .invokestatic 290, 3), (19, .ifCond .eq 15, 3), (22, .iload 4, 2), (24, .ifCond .lt 10, 3), (27, .iload 4, 2), (29, .bipush 20, 2), (31, .if_icmp .le 5, 3), (34, .iconst (-1), 1), (35, .ireturn, 1), (36, .iload 4, 2), (38, .ifCond .ne 7, 3), (41, .iconst 0, 1), (42, .goto 9, 3), (45, .aload 5, 2), (47, .iload_n 2, 1), (48, .invokevirtual 307, 3), (51, .istore 6, 2), (53, .iload 6, 2), (55, .ifCond .ne 17, 3), (58, .iload 4, 2), (60, .aload 5, 2), (62, .iload_n 3, 1), (63, .invokevirtual 310, 3), (66, .invokestatic 313, 3), (69, .goto 4, 3), (72, .iconst 0, 1), (73, .istore 7, 2), (75, .iconst 0, 1), (76, .istore 8, 2), (78, .iload 8, 2), (80, .iload 7, 2), (82, .if_icmp .ge 49, 3)]
theorem ok_X8_read_0 : (tb_X8_read_0.all fun q => decide (decode cX8_read q.1 = .ok q.2)) = true := rdc_all _ 0 _ rfl (by decide +kernel)
def tb_X8_read_1 : List (Nat × Instr × Nat) := [(85, .aload_n 0, 1), (86, .getfield 14, 3), (89, .aload 5, 2), (91, .iload_n 3, 1), (92, .iconst 2, 1), (93, .iload 8, 2), (95, .imul, 1), (96, .iadd, 1), (97, .invokevirtual 316, 3), (100, .aload 5, 2), (102, .iload_n 3, 1), (103, .iconst 2, 1), (104, .iload 8, 2), (106, .imul, 1), (107, .iadd, 1), (108, .iconst 1, 1), (109, .iadd, 1), (110, .invokevirtual 316, 3), (113, .invokevirtual 152, 3), (116, .ifCond .ne 9, 3), (119, .bipush (-20), 2), (121, .iload 8, 2), (123, .isub, 1), (124, .ireturn, 1), (125, .iinc 8 1, 3), (128, .goto (-50), 3), (131, .iconst 0, 1), (132, .istore 8, 2), (134, .iload 8, 2), (136, .iload 7, 2), (138, .if_icmp .ge 52, 3), (141, .aload_n 0, 1), (142, .getfield 14, 3), (145, .dup, 1), (146, .getfield 137, 3), (149, .aload_n 0, 1), (150, .getfield 14, 3), (153, .aload 5, 2), (155, .iload_n 3, 1), (156, .iconst 2, 1)]
theorem ok_X8_read_1 : (tb_X8_read_1.all fun q => decide (decode cX8_read q.1 = .ok q.2)) = true := rdc_all _ 0 _ rfl (by decide +kernel)
def tb_X8_read_2 : List (Nat × Instr × Nat) := [(157, .iload 8, 2), (159, .imul, 1), (160, .iadd, 1), (161, .invokevirtual 316, 3), (164, .aload 5, 2), (166, .iload_n 3, 1), (167, .iconst 2, 1), (168, .iload 8, 2), (170, .imul, 1), (171, .iadd, 1), (172, .iconst 1, 1), (173, .iadd, 1), (174, .invokevirtual 316, 3), (177, .invokevirtual 155, 3), (180, .lxor, 1), (181, .putfield 137, 3), (184, .iinc 8 1, 3), (187, .goto (-53), 3), (190, .aload_n 0, 1), (191, .iload 6, 2), (193, .ifCond .ne 14, 3), (196, .iload 7, 2), (198, .iload 4, 2), (200, .if_icmp .ge 7, 3), (203, .iconst 2, 1), (204, .goto 5, 3), (207, .iload 6, 2), (209, .putfield 319, 3), (212, .iload 7, 2), (214, .ireturn, 1)]
theorem ok_X8_read_2 : (tb_X8_read_2.all fun q => decide (decode cX8_read q.1 = .ok q.2)) = true := rdc_all _ 0 _ rfl (by decide +kernel)
def tb_X8_torn_0 : List (Nat × Instr × Nat) := [(0, .aload_n 0, 1), (1, .getfield 319, 3), (4, .ireturn, 1)]
theorem ok_X8_torn_0 : (tb_X8_torn_0.all fun q => decide (decode cX8_torn q.1 = .ok q.2)) = true := rdc_all _ 0 _ rfl (by decide +kernel)
def tb_X8_count_0 : List (Nat × Instr × Nat) := [(0, .iload_n 1, 1), (1, .tableswitch 146 0 5 #[39, 47, 63, 97, 129, 137], 39), (40, .aload_n 0, 1), (41, .getfield 14, 3), (44, .invokevirtual 159, 3), (47, .ireturn, 1), (48, .aload_n 0, 1), (49, .getfield 14, 3), (52, .getfield 117, 3), (55, .aload_n 0, 1), (56, .getfield 14, 3), (59, .getfield 120, 3), (62, .imul, 1), (63, .ireturn, 1), (64, .aload_n 0, 1), (65, .getfield 18, 3), (68, .getfield 106, 3), (71, .ifCond .eq 24, 3), (74, .aload_n 0, 1), (75, .getfield 14, 3), (78, .getfield 137, 3), (81, .aload_n 0, 1), (82, .getfield 18, 3), (85, .getfield 137, 3), (88, .lxor, 1), (89, .invokestatic 322, 3), (92, .goto 5, 3), (95, .bipush (-4), 2), (97, .ireturn, 1), (98, .aload_n 0, 1), (99, .getfield 21, 3), (102, .getfield 106, 3), (105, .ifCond .eq 7, 3), (108, .iconst 1, 1), (109, .goto 4, 3), (112, .iconst 0, 1), (113, .aload_n 0, 1), (114, .getfield 24, 3), (117, .getfield 106, 3), (120, .ifCond .eq 7, 3)]
theorem ok_X8_count_0 : (tb_X8_count_0.all fun q => decide (decode cX8_count q.1 = .ok q.2)) = true := rdc_all _ 0 _ rfl (by decide +kernel)
def tb_X8_count_1 : List (Nat × Instr × Nat) := [(123, .iconst 1, 1), (124, .goto 4, 3), (127, .iconst 0, 1), (128, .iadd, 1), (129, .ireturn, 1), (130, .aload_n 0, 1), (131, .getfield 40, 3), (134, .getfield 85, 3), (137, .ireturn, 1), (138, .aload_n 0, 1), (139, .getfield 56, 3), (142, .iconst 0, 1), (143, .invokevirtual 327, 3), (146, .ireturn, 1), (147, .iconst (-1), 1), (148, .ireturn, 1)]
theorem ok_X8_count_1 : (tb_X8_count_1.all fun q => decide (decode cX8_count q.1 = .ok q.2)) = true := rdc_all _ 0 _ rfl (by decide +kernel)
def tb_X8_imageOf_0 : List (Nat × Instr × Nat) := [(0, .iload_n 1, 1), (1, .ifCond .ne 8, 3), (4, .aload_n 0, 1), (5, .getfield 21, 3), (8, .areturn, 1), (9, .iload_n 1, 1), (10, .iconst 1, 1), (11, .if_icmp .ne 10, 3), (14, .aload_n 0, 1), (15, .getfield 24, 3), (18, .goto 4, 3), (21, .aconst_null, 1), (22, .areturn, 1)]
theorem ok_X8_imageOf_0 : (tb_X8_imageOf_0.all fun q => decide (decode cX8_imageOf q.1 = .ok q.2)) = true := rdc_all _ 0 _ rfl (by decide +kernel)
def tb_X8_forgetPlans_0 : List (Nat × Instr × Nat) := [(0, .aload_n 0, 1), (1, .getfield 18, 3), (4, .iconst 0, 1), (5, .putfield 106, 3), (8, .aload_n 0, 1), (9, .getfield 33, 3), (12, .invokevirtual 258, 3), (15, .return_, 1)]
theorem ok_X8_forgetPlans_0 : (tb_X8_forgetPlans_0.all fun q => decide (decode cX8_forgetPlans q.1 = .ok q.2)) = true := rdc_all _ 0 _ rfl (by decide +kernel)
def tb_X8_toldOf_0 : List (Nat × Instr × Nat) := [(0, .iload_n 1, 1), (1, .tableswitch 45 0 2 #[27, 29, 37], 27), (28, .iload_n 2, 1), (29, .ireturn, 1), (30, .aload_n 0, 1), (31, .getfield 63, 3), (34, .getfield 198, 3), (37, .ireturn, 1), (38, .aload_n 0, 1), (39, .getfield 63, 3), (42, .getfield 206, 3), (45, .ireturn, 1), (46, .aload_n 0, 1), (47, .getfield 63, 3), (50, .getfield 330, 3), (53, .ireturn, 1)]
theorem ok_X8_toldOf_0 : (tb_X8_toldOf_0.all fun q => decide (decode cX8_toldOf q.1 = .ok q.2)) = true := rdc_all _ 0 _ rfl (by decide +kernel)
def tb_X8_spoiltTold_0 : List (Nat × Instr × Nat) := [(0, .iload_n 1, 1), (1, .ifCond .ne 11, 3), (4, .aload_n 0, 1), (5, .getfield 63, 3), (8, .getfield 333, 3), (11, .ireturn, 1), (12, .aload_n 0, 1), (13, .getfield 63, 3), (16, .getfield 333, 3), (19, .ifCond .ne 8, 3), (22, .bipush (-4), 2), (24, .goto 10, 3), (27, .aload_n 0, 1), (28, .getfield 63, 3), (31, .getfield 334, 3), (34, .ireturn, 1)]
theorem ok_X8_spoiltTold_0 : (tb_X8_spoiltTold_0.all fun q => decide (decode cX8_spoiltTold q.1 = .ok q.2)) = true := rdc_all _ 0 _ rfl (by decide +kernel)
def tb_X8_isPart_0 : List (Nat × Instr × Nat) := [(0, .iload_n 0, 1), (1, .ifCond .lt 24, 3), (4, .iload_n 0, 1), (5, .iload_n 2, 1), (6, .if_icmp .ge 19, 3), (9, .iload_n 1, 1), (10, .iconst 1, 1), (11, .if_icmp .lt 14, 3), (14, .iload_n 1, 1), (15, .iload_n 2, 1), (16, .iload_n 0, 1), (17, .isub, 1), (18, .if_icmp .gt 7, 3), (21, .iconst 1, 1), (22, .goto 4, 3), (25, .iconst 0, 1), (26, .ireturn, 1)]
theorem ok_X8_isPart_0 : (tb_X8_isPart_0.all fun q => decide (decode cX8_isPart q.1 = .ok q.2)) = true := rdc_all _ 0 _ rfl (by decide +kernel)
def tb_X8_isLane_0 : List (Nat × Instr × Nat) := [(0, .iload_n 0, 1), (1, .ifCond .lt 12, 3), (4, .iload_n 0, 1), (5, .iconst 2, 1), (6, .if_icmp .gt 7, 3), (9, .iconst 1, 1), (10, .goto 4, 3), (13, .iconst 0, 1), (14, .ireturn, 1)]
theorem ok_X8_isLane_0 : (tb_X8_isLane_0.all fun q => decide (decode cX8_isLane q.1 = .ok q.2)) = true := rdc_all _ 0 _ rfl (by decide +kernel)
def tb_X8_isBetter_0 : List (Nat × Instr × Nat) := [(0, .iload_n 0, 1), (1, .ifCond .eq 16, 3), (4, .iload_n 1, 1), (5, .iload_n 2, 1), (6, .if_icmp .le 7, 3), (9, .iconst 1, 1), (10, .goto 17, 3), (13, .iconst 0, 1), (14, .goto 13, 3), (17, .iload_n 1, 1), (18, .iload_n 2, 1), (19, .if_icmp .ge 7, 3), (22, .iconst 1, 1), (23, .goto 4, 3), (26, .iconst 0, 1), (27, .ireturn, 1)]
theorem ok_X8_isBetter_0 : (tb_X8_isBetter_0.all fun q => decide (decode cX8_isBetter q.1 = .ok q.2)) = true := rdc_all _ 0 _ rfl (by decide +kernel)
def tb_X8_endOfDuel_0 : List (Nat × Instr × Nat) := [(0, .iload_n 3, 1), (1, .iconst 1, 1), (2, .if_icmp .lt 8, 3), (5, .iload_n 3, 1), (6, .iconst 4, 1), (7, .if_icmp .le 8, 3), (10, .lload_n 1, 1), (11, .invokestatic 322, 3), (14, .ireturn, 1), (15, .iload 4, 2), (17, .ifCond .eq 7, 3), (20, .iconst 0, 1), (21, .goto 4, 3), (24, .iconst 1, 1), (25, .istore 5, 2), (27, .aload_n 0, 1), (28, .lload_n 1, 1), (29, .iload_n 3, 1), (30, .iconst 1, 1), (31, .isub, 1), (32, .iload 4, 2), (34, .ifCond .ne 7, 3), (37, .iconst 1, 1), (38, .goto 4, 3), (41, .iconst 0, 1), (42, .invokestatic 237, 3), (45, .istore 6, 2), (47, .iconst 0, 1), (48, .istore 7, 2), (50, .iload 7, 2), (52, .aload_n 0, 1), (53, .iload 5, 2), (55, .invokevirtual 126, 3), (58, .if_icmp .ge 54, 3), (61, .aload_n 0, 1), (62, .lload_n 1, 1), (63, .aload_n 0, 1), (64, .iload 5, 2), (66, .iload 7, 2), (68, .invokevirtual 155, 3)]
theorem ok_X8_endOfDuel_0 : (tb_X8_endOfDuel_0.all fun q => decide (decode cX8_endOfDuel q.1 = .ok q.2)) = true := rdc_all _ 0 _ rfl (by decide +kernel)
def tb_X8_endOfDuel_1 : List (Nat × Instr × Nat) := [(71, .lxor, 1), (72, .iload_n 3, 1), (73, .iconst 1, 1), (74, .isub, 1), (75, .iload 4, 2), (77, .ifCond .ne 7, 3), (80, .iconst 1, 1), (81, .goto 4, 3), (84, .iconst 0, 1), (85, .invokestatic 237, 3), (88, .istore 8, 2), (90, .iload 4, 2), (92, .iload 8, 2), (94, .iload 6, 2), (96, .invokestatic 241, 3), (99, .ifCond .eq 7, 3), (102, .iload 8, 2), (104, .istore 6, 2), (106, .iinc 7 1, 3), (109, .goto (-59), 3), (112, .iload 6, 2), (114, .ireturn, 1)]
theorem ok_X8_endOfDuel_1 : (tb_X8_endOfDuel_1.all fun q => decide (decode cX8_endOfDuel q.1 = .ok q.2)) = true := rdc_all _ 0 _ rfl (by decide +kernel)
def tb_X8_independentLines_0 : List (Nat × Instr × Nat) := [(0, .iconst 0, 1), (1, .istore_n 2, 1), (2, .iconst 0, 1), (3, .istore_n 3, 1), (4, .iload_n 3, 1), (5, .iload_n 1, 1), (6, .if_icmp .gt 139, 3), (9, .iconst 0, 1), (10, .istore 4, 2), (12, .iload 4, 2), (14, .aload_n 0, 1), (15, .getfield 14, 3), (18, .iload_n 3, 1), (19, .invokevirtual 126, 3), (22, .if_icmp .ge 117, 3), (25, .aload_n 0, 1), (26, .getfield 14, 3), (29, .iload_n 3, 1), (30, .iload 4, 2), (32, .invokevirtual 155, 3), (35, .lstore 5, 2), (37, .iconst 0, 1), (38, .istore 7, 2), (40, .iload 7, 2), (42, .iload_n 2, 1), (43, .if_icmp .ge 63, 3), (46, .iload 7, 2), (48, .aload_n 0, 1), (49, .getfield 77, 3), (52, .arraylength, 1), (53, .if_icmp .ge 53, 3), (56, .aload_n 0, 1), (57, .getfield 77, 3), (60, .iload 7, 2), (62, .laload, 1), (63, .aload_n 0, 1), (64, .getfield 77, 3), (67, .iload 7, 2), (69, .laload, 1), (70, .lneg, 1)]
theorem ok_X8_independentLines_0 : (tb_X8_independentLines_0.all fun q => decide (decode cX8_independentLines q.1 = .ok q.2)) = true := rdc_all _ 0 _ rfl (by decide +kernel)
def tb_X8_independentLines_1 : List (Nat × Instr × Nat) := [(71, .land, 1), (72, .lstore 8, 2), (74, .lload 5, 2), (76, .lload 5, 2), (78, .lload 8, 2), (80, .land, 1), (81, .lconst 0, 1), (82, .lcmp, 1), (83, .ifCond .eq 13, 3), (86, .aload_n 0, 1), (87, .getfield 77, 3), (90, .iload 7, 2), (92, .laload, 1), (93, .goto 4, 3), (96, .lconst 0, 1), (97, .lxor, 1), (98, .lstore 5, 2), (100, .iinc 7 1, 3), (103, .goto (-63), 3), (106, .lload 5, 2), (108, .lconst 0, 1), (109, .lcmp, 1), (110, .ifCond .eq 23, 3), (113, .iload_n 2, 1), (114, .aload_n 0, 1), (115, .getfield 77, 3), (118, .arraylength, 1), (119, .if_icmp .ge 14, 3), (122, .aload_n 0, 1), (123, .getfield 77, 3), (126, .iload_n 2, 1), (127, .lload 5, 2), (129, .lastore, 1), (130, .iinc 2 1, 3), (133, .iinc 4 1, 3), (136, .goto (-124), 3), (139, .iinc 3 1, 3), (142, .goto (-138), 3), (145, .iload_n 2, 1), (146, .ireturn, 1)]
theorem ok_X8_independentLines_1 : (tb_X8_independentLines_1.all fun q => decide (decode cX8_independentLines q.1 = .ok q.2)) = true := rdc_all _ 0 _ rfl (by decide +kernel)
def tb_X9_init_0 : List (Nat × Instr × Nat) := [(0, .aload_n 0, 1), (1, .invokespecial 1, 3), (4, .aload_n 0, 1), (5, .bipush 48, 2), (7, .newarray .int, 2), (9, .putfield 7, 3), (12, .aload_n 0, 1), (13, .iconst 2, 1), (14, .newarray .long, 2), (16, .putfield 13, 3), (19, .aload_n 0, 1), (20, .iconst 2, 1), (21, .newarray .int, 2), (23, .putfield 17, 3), (26, .aload_n 0, 1), (27, .iconst 2, 1), (28, .newarray .int, 2), (30, .putfield 20, 3), (33, .aload_n 0, 1), (34, .bipush 48, 2), (36, .newarray .int, 2), (38, .putfield 23, 3), (41, .aload_n 0, 1), (42, .sipush 320, 3), (45, .newarray .int, 2), (47, .putfield 26, 3), (50, .aload_n 0, 1), (51, .bipush 64, 2), (53, .newarray .long, 2), (55, .putfield 29, 3), (58, .aload_n 0, 1), (59, .sipush 6561, 3), (62, .newarray .int, 2), (64, .putfield 32, 3), (67, .aload_n 0, 1), (68, .iconst 4, 1), (69, .newarray .int, 2), (71, .putfield 35, 3), (74, .aload_n 0, 1), (75, .iconst 4, 1)]
theorem ok_X9_init_0 : (tb_X9_init_0.all fun q => decide (decode cX9_init q.1 = .ok q.2)) = true := rdc_all _ 0 _ rfl (by decide +kernel)
def tb_X9_init_1 : List (Nat × Instr × Nat) := [(76, .newarray .int, 2), (78, .putfield 38, 3), (81, .aload_n 0, 1), (82, .sipush 160, 3), (85, .newarray .int, 2), (87, .putfield 41, 3), (90, .iconst 0, 1), (91, .istore_n 1, 1), (92, .iload_n 1, 1), (93, .iconst 4, 1), (94, .if_icmp .ge 17, 3), (97, .aload_n 0, 1), (98, .getfield 35, 3), (101, .iload_n 1, 1), (102, .bipush (-4), 2), (104, .iastore, 1), (105, .iinc 1 1, 3), (108, .goto (-16), 3), (111, .aload_n 0, 1), (112, .invokevirtual 44, 3), (115, .aload_n 0, 1), (116, .invokevirtual 47, 3), (119, .return_, 1)]
theorem ok_X9_init_1 : (tb_X9_init_1.all fun q => decide (decode cX9_init q.1 = .ok q.2)) = true := rdc_all _ 0 _ rfl (by decide +kernel)
def tb_X9_in_0 : List (Nat × Instr × Nat) := [(0, .lload_n 0, 1), (1, .lload_n 2, 1), (2, .lcmp, 1), (3, .ifCond .lt 14, 3), (6, .lload_n 0, 1), (7, .lload 4, 2), (9, .lcmp, 1), (10, .ifCond .gt 7, 3), (13, .iconst 1, 1), (14, .goto 4, 3), (17, .iconst 0, 1), (18, .ireturn, 1)]
theorem ok_X9_in_0 : (tb_X9_in_0.all fun q => decide (decode cX9_in q.1 = .ok q.2)) = true := rdc_all _ 0 _ rfl (by decide +kernel)
def tb_X9_flag_0 : List (Nat × Instr × Nat) := [(0, .iload_n 0, 1), (1, .ifCond .eq 7, 3), (4, .iconst 1, 1), (5, .goto 4, 3), (8, .iconst 0, 1), (9, .ireturn, 1)]
theorem ok_X9_flag_0 : (tb_X9_flag_0.all fun q => decide (decode cX9_flag q.1 = .ok q.2)) = true := rdc_all _ 0 _ rfl (by decide +kernel)
def tb_X9_bitOf_0 : List (Nat × Instr × Nat) := [(0, .lconst 1, 1), (1, .bipush 8, 2), (3, .iload_n 0, 1), (4, .imul, 1), (5, .iload_n 1, 1), (6, .iadd, 1), (7, .lshl, 1), (8, .lreturn, 1)]
theorem ok_X9_bitOf_0 : (tb_X9_bitOf_0.all fun q => decide (decode cX9_bitOf q.1 = .ok q.2)) = true := rdc_all _ 0 _ rfl (by decide +kernel)
def tb_X9_many_0 : List (Nat × Instr × Nat) := [(0, .iconst 0, 1), (1, .istore_n 2, 1), (2, .iconst 0, 1), (3, .istore_n 3, 1), (4, .iload_n 3, 1), (5, .bipush 64, 2), (7, .if_icmp .ge 18, 3), (10, .iload_n 2, 1), (11, .lload_n 0, 1), (12, .iload_n 3, 1), (13, .lshr, 1), (14, .lconst 1, 1), (15, .land, 1), (16, .l2i, 1), (17, .iadd, 1), (18, .istore_n 2, 1), (19, .iinc 3 1, 3), (22, .goto (-18), 3), (25, .iload_n 2, 1), (26, .ireturn, 1)]
theorem ok_X9_many_0 : (tb_X9_many_0.all fun q => decide (decode cX9_many q.1 = .ok q.2)) = true := rdc_all _ 0 _ rfl (by decide +kernel)
def tb_X9_firstDraft_0 : List (Nat × Instr × Nat) := [(0, .aload_n 0, 1), (1, .iconst 4, 1), (2, .putfield 50, 3), (5, .aload_n 0, 1), (6, .iconst 4, 1), (7, .putfield 54, 3), (10, .aload_n 0, 1), (11, .lconst 0, 1), (12, .putfield 57, 3), (15, .aload_n 0, 1), (16, .lconst 0, 1), (17, .putfield 61, 3), (20, .aload_n 0, 1), (21, .iconst 0, 1), (22, .putfield 64, 3), (25, .aload_n 0, 1), (26, .iconst 0, 1), (27, .putfield 68, 3), (30, .aload_n 0, 1), (31, .iconst 0, 1), (32, .putfield 71, 3), (35, .return_, 1)]
theorem ok_X9_firstDraft_0 : (tb_X9_firstDraft_0.all fun q => decide (decode cX9_firstDraft q.1 = .ok q.2)) = true := rdc_all _ 0 _ rfl (by decide +kernel)
def tb_X9_keepDraft_0 : List (Nat × Instr × Nat) := [(0, .aload_n 0, 1), (1, .aload_n 0, 1), (2, .getfield 50, 3), (5, .putfield 74, 3), (8, .aload_n 0, 1), (9, .aload_n 0, 1), (10, .getfield 54, 3), (13, .putfield 77, 3), (16, .aload_n 0, 1), (17, .aload_n 0, 1), (18, .getfield 57, 3), (21, .putfield 80, 3), (24, .aload_n 0, 1), (25, .aload_n 0, 1), (26, .getfield 61, 3), (29, .putfield 83, 3), (32, .aload_n 0, 1), (33, .aload_n 0, 1), (34, .getfield 68, 3), (37, .putfield 86, 3), (40, .aload_n 0, 1), (41, .aload_n 0, 1), (42, .getfield 71, 3), (45, .putfield 89, 3), (48, .iconst 0, 1), (49, .istore_n 1, 1), (50, .iload_n 1, 1), (51, .bipush 48, 2), (53, .if_icmp .ge 21, 3), (56, .aload_n 0, 1), (57, .getfield 7, 3), (60, .iload_n 1, 1), (61, .aload_n 0, 1), (62, .getfield 23, 3), (65, .iload_n 1, 1), (66, .iaload, 1), (67, .iastore, 1), (68, .iinc 1 1, 3), (71, .goto (-21), 3), (74, .aload_n 0, 1)]
theorem ok_X9_keepDraft_0 : (tb_X9_keepDraft_0.all fun q => decide (decode cX9_keepDraft q.1 = .ok q.2)) = true := rdc_all _ 0 _ rfl (by decide +kernel)
def tb_X9_keepDraft_1 : List (Nat × Instr × Nat) := [(75, .getfield 17, 3), (78, .iconst 0, 1), (79, .iconst 0, 1), (80, .iastore, 1), (81, .aload_n 0, 1), (82, .getfield 17, 3), (85, .iconst 1, 1), (86, .iconst 0, 1), (87, .iastore, 1), (88, .return_, 1)]
theorem ok_X9_keepDraft_1 : (tb_X9_keepDraft_1.all fun q => decide (decode cX9_keepDraft q.1 = .ok q.2)) = true := rdc_all _ 0 _ rfl (by decide +kernel)
def tb_X9_feed_0 : List (Nat × Instr × Nat) := [(0, .aload_n 0, 1), (1, .getfield 92, 3), (4, .bipush 8, 2), (6, .iadd, 1), (7, .sipush 320, 3), (10, .if_icmp .le 6, 3), (13, .bipush (-3), 2), (15, .ireturn, 1), (16, .bipush 56, 2), (18, .istore_n 3, 1), (19, .iload_n 3, 1), (20, .ifCond .lt 36, 3), (23, .aload_n 0, 1), (24, .getfield 26, 3), (27, .aload_n 0, 1), (28, .getfield 92, 3), (31, .lload_n 1, 1), (32, .iload_n 3, 1), (33, .lshr, 1), (34, .ldc2_w 95, 3), (37, .land, 1), (38, .l2i, 1), (39, .iastore, 1), (40, .aload_n 0, 1), (41, .dup, 1), (42, .getfield 92, 3), (45, .iconst 1, 1), (46, .iadd, 1), (47, .putfield 92, 3), (50, .iinc 3 (-8), 3), (53, .goto (-34), 3), (56, .aload_n 0, 1), (57, .getfield 92, 3), (60, .ireturn, 1)]
theorem ok_X9_feed_0 : (tb_X9_feed_0.all fun q => decide (decode cX9_feed q.1 = .ok q.2)) = true := rdc_all _ 0 _ rfl (by decide +kernel)
def tb_X9_end_0 : List (Nat × Instr × Nat) := [(0, .iload_n 1, 1), (1, .i2l, 1), (2, .lconst 0, 1), (3, .aload_n 0, 1), (4, .getfield 92, 3), (7, .i2l, 1), (8, .invokestatic 97, 3), (11, .ifCond .ne 5, 3), (14, .iconst (-1), 1), (15, .ireturn, 1), (16, .aload_n 0, 1), (17, .getfield 92, 3), (20, .istore_n 2, 1), (21, .aload_n 0, 1), (22, .iload_n 1, 1), (23, .putfield 92, 3), (26, .iload_n 2, 1), (27, .ireturn, 1)]
theorem ok_X9_end_0 : (tb_X9_end_0.all fun q => decide (decode cX9_end q.1 = .ok q.2)) = true := rdc_all _ 0 _ rfl (by decide +kernel)
def tb_X9_needs_0 : List (Nat × Instr × Nat) := [(0, .iload_n 1, 1), (1, .ifCond .ne 23, 3), (4, .aload_n 0, 1), (5, .getfield 101, 3), (8, .ifCond .ne 16, 3), (11, .aload_n 0, 1), (12, .iload_n 2, 1), (13, .putfield 101, 3), (16, .aload_n 0, 1), (17, .aload_n 0, 1), (18, .getfield 104, 3), (21, .putfield 107, 3), (24, .return_, 1)]
theorem ok_X9_needs_0 : (tb_X9_needs_0.all fun q => decide (decode cX9_needs q.1 = .ok q.2)) = true := rdc_all _ 0 _ rfl (by decide +kernel)
def tb_X9_look_0 : List (Nat × Instr × Nat) := [(0, .iload_n 1, 1), (1, .aload_n 0, 1), (2, .getfield 92, 3), (5, .if_icmp .ge 12, 3), (8, .aload_n 0, 1), (9, .getfield 26, 3), (12, .iload_n 1, 1), (13, .iaload, 1), (14, .goto 4, 3), (17, .iconst (-1), 1), (18, .ireturn, 1)]
theorem ok_X9_look_0 : (tb_X9_look_0.all fun q => decide (decode cX9_look q.1 = .ok q.2)) = true := rdc_all _ 0 _ rfl (by decide +kernel)
def tb_X9_is_0 : List (Nat × Instr × Nat) := [(0, .aload_n 0, 1), (1, .getfield 110, 3), (4, .aload_n 0, 1), (5, .getfield 104, 3), (8, .isub, 1), (9, .iload_n 1, 1), (10, .if_icmp .ne 48, 3), (13, .aload_n 0, 1), (14, .aload_n 0, 1), (15, .getfield 104, 3), (18, .invokevirtual 113, 3), (21, .iload_n 2, 1), (22, .if_icmp .ne 36, 3), (25, .aload_n 0, 1), (26, .aload_n 0, 1), (27, .getfield 104, 3), (30, .iconst 1, 1), (31, .iadd, 1), (32, .invokevirtual 113, 3), (35, .iload_n 3, 1), (36, .if_icmp .ne 22, 3), (39, .aload_n 0, 1), (40, .aload_n 0, 1), (41, .getfield 104, 3), (44, .iconst 2, 1), (45, .iadd, 1), (46, .invokevirtual 113, 3), (49, .iload 4, 2), (51, .if_icmp .ne 7, 3), (54, .iconst 1, 1), (55, .goto 4, 3), (58, .iconst 0, 1), (59, .ireturn, 1)]
theorem ok_X9_is_0 : (tb_X9_is_0.all fun q => decide (decode cX9_is q.1 = .ok q.2)) = true := rdc_all _ 0 _ rfl (by decide +kernel)
def tb_X9_goesOn_0 : List (Nat × Instr × Nat) := [(0, .aload_n 0, 1), (1, .aload_n 0, 1), (2, .getfield 104, 3), (5, .iload_n 1, 1), (6, .iadd, 1), (7, .invokevirtual 113, 3), (10, .iload_n 2, 1), (11, .if_icmp .ne 49, 3), (14, .iload_n 3, 1), (15, .ifCond .eq 19, 3), (18, .aload_n 0, 1), (19, .aload_n 0, 1), (20, .getfield 104, 3), (23, .iload_n 1, 1), (24, .iadd, 1), (25, .iconst 1, 1), (26, .iadd, 1), (27, .invokevirtual 113, 3), (30, .iload_n 3, 1), (31, .if_icmp .ne 29, 3), (34, .iload 4, 2), (36, .ifCond .eq 20, 3), (39, .aload_n 0, 1), (40, .aload_n 0, 1), (41, .getfield 104, 3), (44, .iload_n 1, 1), (45, .iadd, 1), (46, .iconst 2, 1), (47, .iadd, 1), (48, .invokevirtual 113, 3), (51, .iload 4, 2), (53, .if_icmp .ne 7, 3), (56, .iconst 1, 1), (57, .goto 4, 3), (60, .iconst 0, 1), (61, .ireturn, 1)]
theorem ok_X9_goesOn_0 : (tb_X9_goesOn_0.all fun q => decide (decode cX9_goesOn q.1 = .ok q.2)) = true := rdc_all _ 0 _ rfl (by decide +kernel)
def tb_X9_lineNow_0 : List (Nat × Instr × Nat) := [(0, .aload_n 0, 1), (1, .iconst 5, 1), (2, .bipush 99, 2), (4, .bipush 108, 2), (6, .bipush 111, 2), (8, .invokevirtual 117, 3), (11, .ifCond .eq 19, 3), (14, .aload_n 0, 1), (15, .iconst 3, 1), (16, .bipush 116, 2), (18, .bipush 104, 2), (20, .iconst 0, 1), (21, .invokevirtual 121, 3), (24, .ifCond .eq 6, 3), (27, .bipush 10, 2), (29, .ireturn, 1), (30, .aload_n 0, 1), (31, .bipush 7, 2), (33, .bipush 112, 2), (35, .bipush 97, 2), (37, .bipush 116, 2), (39, .invokevirtual 117, 3), (42, .ifCond .eq 33, 3), (45, .aload_n 0, 1), (46, .iconst 3, 1), (47, .bipush 116, 2), (49, .bipush 101, 2), (51, .bipush 114, 2), (53, .invokevirtual 121, 3), (56, .ifCond .eq 19, 3), (59, .aload_n 0, 1), (60, .bipush 6, 2), (62, .bipush 110, 2), (64, .iconst 0, 1), (65, .iconst 0, 1), (66, .invokevirtual 121, 3), (69, .ifCond .eq 6, 3), (72, .bipush 11, 2), (74, .ireturn, 1), (75, .aload_n 0, 1)]
theorem ok_X9_lineNow_0 : (tb_X9_lineNow_0.all fun q => decide (decode cX9_lineNow q.1 = .ok q.2)) = true := rdc_all _ 0 _ rfl (by decide +kernel)
def tb_X9_lineNow_1 : List (Nat × Instr × Nat) := [(76, .iconst 3, 1), (77, .bipush 100, 2), (79, .bipush 97, 2), (81, .bipush 121, 2), (83, .invokevirtual 117, 3), (86, .ifCond .eq 8, 3), (89, .bipush 12, 2), (91, .goto 5, 3), (94, .bipush (-4), 2), (96, .ireturn, 1)]
theorem ok_X9_lineNow_1 : (tb_X9_lineNow_1.all fun q => decide (decode cX9_lineNow q.1 = .ok q.2)) = true := rdc_all _ 0 _ rfl (by decide +kernel)
def tb_X9_actNow_0 : List (Nat × Instr × Nat) := [(0, .aload_n 0, 1), (1, .iconst 3, 1), (2, .bipush 114, 2), (4, .bipush 111, 2), (6, .bipush 119, 2), (8, .invokevirtual 117, 3), (11, .ifCond .eq 5, 3), (14, .iconst 0, 1), (15, .ireturn, 1), (16, .aload_n 0, 1), (17, .bipush 6, 2), (19, .bipush 99, 2), (21, .bipush 111, 2), (23, .bipush 108, 2), (25, .invokevirtual 117, 3), (28, .ifCond .eq 19, 3), (31, .aload_n 0, 1), (32, .iconst 3, 1), (33, .bipush 117, 2), (35, .bipush 109, 2), (37, .bipush 110, 2), (39, .invokevirtual 121, 3), (42, .ifCond .eq 5, 3), (45, .iconst 1, 1), (46, .ireturn, 1), (47, .aload_n 0, 1), (48, .iconst 5, 1), (49, .bipush 115, 2), (51, .bipush 108, 2), (53, .bipush 97, 2), (55, .invokevirtual 117, 3), (58, .ifCond .eq 20, 3), (61, .aload_n 0, 1), (62, .iconst 3, 1), (63, .bipush 110, 2), (65, .bipush 116, 2), (67, .iconst 0, 1), (68, .invokevirtual 121, 3), (71, .ifCond .eq 7, 3), (74, .iconst 2, 1)]
theorem ok_X9_actNow_0 : (tb_X9_actNow_0.all fun q => decide (decode cX9_actNow q.1 = .ok q.2)) = true := rdc_all _ 0 _ rfl (by decide +kernel)
def tb_X9_actNow_1 : List (Nat × Instr × Nat) := [(75, .goto 5, 3), (78, .bipush (-4), 2), (80, .ireturn, 1)]
theorem ok_X9_actNow_1 : (tb_X9_actNow_1.all fun q => decide (decode cX9_actNow q.1 = .ok q.2)) = true := rdc_all _ 0 _ rfl (by decide +kernel)
def tb_X9_isRowName_0 : List (Nat × Instr × Nat) := [(0, .aload_n 0, 1), (1, .getfield 124, 3), (4, .iconst 1, 1), (5, .if_icmp .ne 7, 3), (8, .iconst 1, 1), (9, .goto 4, 3), (12, .iconst 0, 1), (13, .istore_n 1, 1), (14, .aload_n 0, 1), (15, .getfield 104, 3), (18, .istore_n 2, 1), (19, .iload_n 2, 1), (20, .aload_n 0, 1), (21, .getfield 110, 3), (24, .if_icmp .ge 39, 3), (27, .iload_n 1, 1), (28, .ifCond .eq 27, 3), (31, .aload_n 0, 1), (32, .iload_n 2, 1), (33, .invokevirtual 113, 3), (36, .bipush 100, 2), (38, .if_icmp .eq 13, 3), (41, .aload_n 0, 1), (42, .iload_n 2, 1), (43, .invokevirtual 113, 3), (46, .bipush 108, 2), (48, .if_icmp .ne 7, 3), (51, .iconst 1, 1), (52, .goto 4, 3), (55, .iconst 0, 1), (56, .istore_n 1, 1), (57, .iinc 2 1, 3), (60, .goto (-41), 3), (63, .iload_n 1, 1), (64, .ireturn, 1)]
theorem ok_X9_isRowName_0 : (tb_X9_isRowName_0.all fun q => decide (decode cX9_isRowName q.1 = .ok q.2)) = true := rdc_all _ 0 _ rfl (by decide +kernel)
def tb_X9_next_0 : List (Nat × Instr × Nat) := [(0, .aload_n 0, 1), (1, .getfield 101, 3), (4, .ifCond .le 4, 3), (7, .return_, 1), (8, .aload_n 0, 1), (9, .aload_n 0, 1), (10, .getfield 110, 3), (13, .invokevirtual 113, 3), (16, .bipush 32, 2), (18, .if_icmp .ne 16, 3), (21, .aload_n 0, 1), (22, .dup, 1), (23, .getfield 110, 3), (26, .iconst 1, 1), (27, .iadd, 1), (28, .putfield 110, 3), (31, .goto (-23), 3), (34, .aload_n 0, 1), (35, .aload_n 0, 1), (36, .getfield 110, 3), (39, .putfield 104, 3), (42, .aload_n 0, 1), (43, .aload_n 0, 1), (44, .getfield 110, 3), (47, .invokevirtual 113, 3), (50, .istore_n 1, 1), (51, .iload_n 1, 1), (52, .ifCond .ge 11, 3), (55, .aload_n 0, 1), (56, .iconst 0, 1), (57, .putfield 124, 3), (60, .goto 214, 3), (63, .iload_n 1, 1), (64, .i2l, 1), (65, .ldc2_w 127, 3), (68, .ldc2_w 129, 3), (71, .invokestatic 97, 3), (74, .ifCond .eq 42, 3), (77, .aload_n 0, 1), (78, .iconst 1, 1)]
theorem ok_X9_next_0 : (tb_X9_next_0.all fun q => decide (decode cX9_next q.1 = .ok q.2)) = true := rdc_all _ 0 _ rfl (by decide +kernel)
def tb_X9_next_1 : List (Nat × Instr × Nat) := [(79, .putfield 124, 3), (82, .aload_n 0, 1), (83, .aload_n 0, 1), (84, .getfield 110, 3), (87, .invokevirtual 113, 3), (90, .i2l, 1), (91, .ldc2_w 127, 3), (94, .ldc2_w 129, 3), (97, .invokestatic 97, 3), (100, .ifCond .eq 174, 3), (103, .aload_n 0, 1), (104, .dup, 1), (105, .getfield 110, 3), (108, .iconst 1, 1), (109, .iadd, 1), (110, .putfield 110, 3), (113, .goto (-31), 3), (116, .iload_n 1, 1), (117, .i2l, 1), (118, .ldc2_w 131, 3), (121, .ldc2_w 133, 3), (124, .invokestatic 97, 3), (127, .ifCond .eq 116, 3), (130, .aload_n 0, 1), (131, .iconst 2, 1), (132, .putfield 124, 3), (135, .aload_n 0, 1), (136, .iconst 0, 1), (137, .putfield 135, 3), (140, .aload_n 0, 1), (141, .aload_n 0, 1), (142, .getfield 110, 3), (145, .invokevirtual 113, 3), (148, .i2l, 1), (149, .ldc2_w 131, 3), (152, .ldc2_w 133, 3), (155, .invokestatic 97, 3), (158, .ifCond .eq 59, 3), (161, .aload_n 0, 1), (162, .aload_n 0, 1)]
theorem ok_X9_next_1 : (tb_X9_next_1.all fun q => decide (decode cX9_next q.1 = .ok q.2)) = true := rdc_all _ 0 _ rfl (by decide +kernel)
def tb_X9_next_2 : List (Nat × Instr × Nat) := [(163, .getfield 110, 3), (166, .aload_n 0, 1), (167, .getfield 104, 3), (170, .isub, 1), (171, .iconst 2, 1), (172, .if_icmp .ge 25, 3), (175, .bipush 10, 2), (177, .aload_n 0, 1), (178, .getfield 135, 3), (181, .imul, 1), (182, .aload_n 0, 1), (183, .aload_n 0, 1), (184, .getfield 110, 3), (187, .invokevirtual 113, 3), (190, .iadd, 1), (191, .bipush 48, 2), (193, .isub, 1), (194, .goto 7, 3), (197, .aload_n 0, 1), (198, .getfield 135, 3), (201, .putfield 135, 3), (204, .aload_n 0, 1), (205, .dup, 1), (206, .getfield 110, 3), (209, .iconst 1, 1), (210, .iadd, 1), (211, .putfield 110, 3), (214, .goto (-74), 3), (217, .aload_n 0, 1), (218, .aload_n 0, 1), (219, .getfield 110, 3), (222, .aload_n 0, 1), (223, .getfield 104, 3), (226, .isub, 1), (227, .iconst 2, 1), (228, .if_icmp .gt 7, 3), (231, .iconst 1, 1), (232, .goto 4, 3), (235, .iconst 0, 1), (236, .iconst 1, 1)]
theorem ok_X9_next_2 : (tb_X9_next_2.all fun q => decide (decode cX9_next q.1 = .ok q.2)) = true := rdc_all _ 0 _ rfl (by decide +kernel)
def tb_X9_next_3 : List (Nat × Instr × Nat) := [(237, .invokevirtual 138, 3), (240, .goto 34, 3), (243, .aload_n 0, 1), (244, .iconst 3, 1), (245, .putfield 124, 3), (248, .aload_n 0, 1), (249, .iload_n 1, 1), (250, .bipush 59, 2), (252, .if_icmp .ne 7, 3), (255, .iconst 1, 1), (256, .goto 4, 3), (259, .iconst 0, 1), (260, .iconst 1, 1), (261, .invokevirtual 138, 3), (264, .aload_n 0, 1), (265, .dup, 1), (266, .getfield 110, 3), (269, .iconst 1, 1), (270, .iadd, 1), (271, .putfield 110, 3), (274, .return_, 1)]
theorem ok_X9_next_3 : (tb_X9_next_3.all fun q => decide (decode cX9_next q.1 = .ok q.2)) = true := rdc_all _ 0 _ rfl (by decide +kernel)
def tb_X9_readRows_0 : List (Nat × Instr × Nat) := [(0, .aload_n 0, 1), (1, .iconst 0, 1), (2, .putfield 142, 3), (5, .aload_n 0, 1), (6, .iconst 0, 1), (7, .putfield 145, 3), (10, .aload_n 0, 1), (11, .lconst 0, 1), (12, .putfield 148, 3), (15, .iconst 1, 1), (16, .istore_n 1, 1), (17, .aload_n 0, 1), (18, .getfield 101, 3), (21, .ifCond .ne 168, 3), (24, .iload_n 1, 1), (25, .ifCond .eq 164, 3), (28, .aload_n 0, 1), (29, .aload_n 0, 1), (30, .invokevirtual 151, 3), (33, .iconst 2, 1), (34, .invokevirtual 138, 3), (37, .aload_n 0, 1), (38, .aload_n 0, 1), (39, .getfield 142, 3), (42, .bipush 8, 2), (44, .if_icmp .ge 7, 3), (47, .iconst 1, 1), (48, .goto 4, 3), (51, .iconst 0, 1), (52, .iconst 5, 1), (53, .invokevirtual 138, 3), (56, .aload_n 0, 1), (57, .getfield 110, 3), (60, .aload_n 0, 1), (61, .getfield 104, 3), (64, .isub, 1), (65, .istore_n 2, 1), (66, .aload_n 0, 1), (67, .iload_n 2, 1), (68, .bipush 8, 2)]
theorem ok_X9_readRows_0 : (tb_X9_readRows_0.all fun q => decide (decode cX9_readRows q.1 = .ok q.2)) = true := rdc_all _ 0 _ rfl (by decide +kernel)
def tb_X9_readRows_1 : List (Nat × Instr × Nat) := [(70, .if_icmp .gt 22, 3), (73, .aload_n 0, 1), (74, .getfield 142, 3), (77, .ifCond .eq 11, 3), (80, .iload_n 2, 1), (81, .aload_n 0, 1), (82, .getfield 145, 3), (85, .if_icmp .ne 7, 3), (88, .iconst 1, 1), (89, .goto 4, 3), (92, .iconst 0, 1), (93, .iconst 3, 1), (94, .invokevirtual 138, 3), (97, .aload_n 0, 1), (98, .getfield 101, 3), (101, .ifCond .ne 67, 3), (104, .aload_n 0, 1), (105, .iload_n 2, 1), (106, .putfield 145, 3), (109, .iconst 0, 1), (110, .istore_n 3, 1), (111, .iload_n 3, 1), (112, .iload_n 2, 1), (113, .if_icmp .ge 45, 3), (116, .aload_n 0, 1), (117, .dup, 1), (118, .getfield 148, 3), (121, .aload_n 0, 1), (122, .aload_n 0, 1), (123, .getfield 104, 3), (126, .iload_n 3, 1), (127, .iadd, 1), (128, .invokevirtual 113, 3), (131, .bipush 100, 2), (133, .if_icmp .ne 14, 3), (136, .aload_n 0, 1), (137, .getfield 142, 3), (140, .iload_n 3, 1), (141, .invokestatic 155, 3), (144, .goto 4, 3)]
theorem ok_X9_readRows_1 : (tb_X9_readRows_1.all fun q => decide (decode cX9_readRows q.1 = .ok q.2)) = true := rdc_all _ 0 _ rfl (by decide +kernel)
def tb_X9_readRows_2 : List (Nat × Instr × Nat) := [(147, .lconst 0, 1), (148, .lor, 1), (149, .putfield 148, 3), (152, .iinc 3 1, 3), (155, .goto (-44), 3), (158, .aload_n 0, 1), (159, .dup, 1), (160, .getfield 142, 3), (163, .iconst 1, 1), (164, .iadd, 1), (165, .putfield 142, 3), (168, .aload_n 0, 1), (169, .invokevirtual 159, 3), (172, .aload_n 0, 1), (173, .getfield 124, 3), (176, .iconst 1, 1), (177, .if_icmp .ne 7, 3), (180, .iconst 1, 1), (181, .goto 4, 3), (184, .iconst 0, 1), (185, .istore_n 1, 1), (186, .goto (-169), 3), (189, .return_, 1)]
theorem ok_X9_readRows_2 : (tb_X9_readRows_2.all fun q => decide (decode cX9_readRows q.1 = .ok q.2)) = true := rdc_all _ 0 _ rfl (by decide +kernel)
def tb_X9_readAct_0 : List (Nat × Instr × Nat) := [(0, .aload_n 0, 1), (1, .getfield 124, 3), (4, .iconst 1, 1), (5, .if_icmp .ne 10, 3), (8, .aload_n 0, 1), (9, .invokevirtual 162, 3), (12, .goto 5, 3), (15, .bipush (-4), 2), (17, .istore_n 2, 1), (18, .aload_n 0, 1), (19, .iload_n 2, 1), (20, .bipush (-4), 2), (22, .if_icmp .eq 7, 3), (25, .iconst 1, 1), (26, .goto 4, 3), (29, .iconst 0, 1), (30, .iconst 2, 1), (31, .invokevirtual 138, 3), (34, .aload_n 0, 1), (35, .iload_n 1, 1), (36, .iconst 3, 1), (37, .if_icmp .ge 7, 3), (40, .iconst 1, 1), (41, .goto 4, 3), (44, .iconst 0, 1), (45, .iconst 5, 1), (46, .invokevirtual 138, 3), (49, .aload_n 0, 1), (50, .invokevirtual 159, 3), (53, .aload_n 0, 1), (54, .getfield 101, 3), (57, .ifCond .ne 21, 3), (60, .aload_n 0, 1), (61, .aload_n 0, 1), (62, .getfield 124, 3), (65, .iconst 2, 1), (66, .if_icmp .ne 7, 3), (69, .iconst 1, 1), (70, .goto 4, 3), (73, .iconst 0, 1)]
theorem ok_X9_readAct_0 : (tb_X9_readAct_0.all fun q => decide (decode cX9_readAct q.1 = .ok q.2)) = true := rdc_all _ 0 _ rfl (by decide +kernel)
def tb_X9_readAct_1 : List (Nat × Instr × Nat) := [(74, .iconst 2, 1), (75, .invokevirtual 138, 3), (78, .aload_n 0, 1), (79, .getfield 101, 3), (82, .ifCond .ne 31, 3), (85, .aload_n 0, 1), (86, .aload_n 0, 1), (87, .getfield 135, 3), (90, .i2l, 1), (91, .lconst 0, 1), (92, .iload_n 2, 1), (93, .iconst 2, 1), (94, .if_icmp .ne 9, 3), (97, .ldc2_w 166, 3), (100, .goto 6, 3), (103, .ldc2_w 168, 3), (106, .invokestatic 97, 3), (109, .iconst 3, 1), (110, .invokevirtual 138, 3), (113, .aload_n 0, 1), (114, .getfield 101, 3), (117, .ifCond .ne 27, 3), (120, .aload_n 0, 1), (121, .getfield 23, 3), (124, .iconst 4, 1), (125, .aload_n 0, 1), (126, .getfield 71, 3), (129, .imul, 1), (130, .iconst 1, 1), (131, .iadd, 1), (132, .iload_n 1, 1), (133, .iadd, 1), (134, .bipush 20, 2), (136, .iload_n 2, 1), (137, .imul, 1), (138, .aload_n 0, 1), (139, .getfield 135, 3), (142, .iadd, 1), (143, .iastore, 1), (144, .aload_n 0, 1)]
theorem ok_X9_readAct_1 : (tb_X9_readAct_1.all fun q => decide (decode cX9_readAct q.1 = .ok q.2)) = true := rdc_all _ 0 _ rfl (by decide +kernel)
def tb_X9_readAct_2 : List (Nat × Instr × Nat) := [(145, .invokevirtual 159, 3), (148, .return_, 1)]
theorem ok_X9_readAct_2 : (tb_X9_readAct_2.all fun q => decide (decode cX9_readAct q.1 = .ok q.2)) = true := rdc_all _ 0 _ rfl (by decide +kernel)
def tb_X9_readDay_0 : List (Nat × Instr × Nat) := [(0, .iconst 0, 1), (1, .istore_n 1, 1), (2, .iconst 1, 1), (3, .istore_n 2, 1), (4, .aload_n 0, 1), (5, .getfield 101, 3), (8, .ifCond .ne 32, 3), (11, .iload_n 2, 1), (12, .ifCond .eq 28, 3), (15, .aload_n 0, 1), (16, .iload_n 1, 1), (17, .invokevirtual 170, 3), (20, .iinc 1 1, 3), (23, .aload_n 0, 1), (24, .getfield 124, 3), (27, .iconst 1, 1), (28, .if_icmp .ne 7, 3), (31, .iconst 1, 1), (32, .goto 4, 3), (35, .iconst 0, 1), (36, .istore_n 2, 1), (37, .goto (-33), 3), (40, .aload_n 0, 1), (41, .getfield 101, 3), (44, .ifCond .ne 25, 3), (47, .aload_n 0, 1), (48, .getfield 23, 3), (51, .iconst 4, 1), (52, .aload_n 0, 1), (53, .getfield 71, 3), (56, .imul, 1), (57, .iload_n 1, 1), (58, .iastore, 1), (59, .aload_n 0, 1), (60, .dup, 1), (61, .getfield 71, 3), (64, .iconst 1, 1), (65, .iadd, 1), (66, .putfield 71, 3), (69, .return_, 1)]
theorem ok_X9_readDay_0 : (tb_X9_readDay_0.all fun q => decide (decode cX9_readDay q.1 = .ok q.2)) = true := rdc_all _ 0 _ rfl (by decide +kernel)
def tb_X9_readLine_0 : List (Nat × Instr × Nat) := [(0, .aload_n 0, 1), (1, .getfield 124, 3), (4, .iconst 1, 1), (5, .if_icmp .ne 10, 3), (8, .aload_n 0, 1), (9, .invokevirtual 174, 3), (12, .goto 5, 3), (15, .bipush (-4), 2), (17, .istore_n 1, 1), (18, .aload_n 0, 1), (19, .iload_n 1, 1), (20, .bipush (-4), 2), (22, .if_icmp .eq 7, 3), (25, .iconst 1, 1), (26, .goto 4, 3), (29, .iconst 0, 1), (30, .iconst 2, 1), (31, .invokevirtual 138, 3), (34, .aload_n 0, 1), (35, .iload_n 1, 1), (36, .bipush 12, 2), (38, .if_icmp .ne 12, 3), (41, .aload_n 0, 1), (42, .getfield 71, 3), (45, .bipush 12, 2), (47, .if_icmp .ge 7, 3), (50, .iconst 1, 1), (51, .goto 4, 3), (54, .iconst 0, 1), (55, .iconst 5, 1), (56, .invokevirtual 138, 3), (59, .aload_n 0, 1), (60, .iload_n 1, 1), (61, .bipush 10, 2), (63, .if_icmp .ne 10, 3), (66, .aload_n 0, 1), (67, .getfield 64, 3), (70, .ifCond .ne 20, 3), (73, .iload_n 1, 1), (74, .bipush 11, 2)]
theorem ok_X9_readLine_0 : (tb_X9_readLine_0.all fun q => decide (decode cX9_readLine q.1 = .ok q.2)) = true := rdc_all _ 0 _ rfl (by decide +kernel)
def tb_X9_readLine_1 : List (Nat × Instr × Nat) := [(76, .if_icmp .ne 10, 3), (79, .aload_n 0, 1), (80, .getfield 68, 3), (83, .ifCond .ne 7, 3), (86, .iconst 1, 1), (87, .goto 4, 3), (90, .iconst 0, 1), (91, .iconst 4, 1), (92, .invokevirtual 138, 3), (95, .aload_n 0, 1), (96, .invokevirtual 159, 3), (99, .aload_n 0, 1), (100, .getfield 101, 3), (103, .ifCond .le 4, 3), (106, .return_, 1), (107, .iload_n 1, 1), (108, .bipush 12, 2), (110, .if_icmp .ne 10, 3), (113, .aload_n 0, 1), (114, .invokevirtual 177, 3), (117, .goto 74, 3), (120, .aload_n 0, 1), (121, .invokevirtual 180, 3), (124, .iload_n 1, 1), (125, .bipush 10, 2), (127, .if_icmp .ne 35, 3), (130, .aload_n 0, 1), (131, .iconst 1, 1), (132, .putfield 64, 3), (135, .aload_n 0, 1), (136, .aload_n 0, 1), (137, .getfield 142, 3), (140, .putfield 50, 3), (143, .aload_n 0, 1), (144, .aload_n 0, 1), (145, .getfield 145, 3), (148, .putfield 54, 3), (151, .aload_n 0, 1), (152, .aload_n 0, 1), (153, .getfield 148, 3)]
theorem ok_X9_readLine_1 : (tb_X9_readLine_1.all fun q => decide (decode cX9_readLine q.1 = .ok q.2)) = true := rdc_all _ 0 _ rfl (by decide +kernel)
def tb_X9_readLine_2 : List (Nat × Instr × Nat) := [(156, .putfield 57, 3), (159, .goto 32, 3), (162, .aload_n 0, 1), (163, .iconst 1, 1), (164, .putfield 68, 3), (167, .aload_n 0, 1), (168, .aload_n 0, 1), (169, .getfield 142, 3), (172, .putfield 183, 3), (175, .aload_n 0, 1), (176, .aload_n 0, 1), (177, .getfield 145, 3), (180, .putfield 186, 3), (183, .aload_n 0, 1), (184, .aload_n 0, 1), (185, .getfield 148, 3), (188, .putfield 61, 3), (191, .aload_n 0, 1), (192, .getfield 101, 3), (195, .ifCond .ne 21, 3), (198, .aload_n 0, 1), (199, .aload_n 0, 1), (200, .getfield 124, 3), (203, .iconst 3, 1), (204, .if_icmp .ne 7, 3), (207, .iconst 1, 1), (208, .goto 4, 3), (211, .iconst 0, 1), (212, .iconst 2, 1), (213, .invokevirtual 138, 3), (216, .aload_n 0, 1), (217, .invokevirtual 159, 3), (220, .return_, 1)]
theorem ok_X9_readLine_2 : (tb_X9_readLine_2.all fun q => decide (decode cX9_readLine q.1 = .ok q.2)) = true := rdc_all _ 0 _ rfl (by decide +kernel)
def tb_X9_isActOf_0 : List (Nat × Instr × Nat) := [(0, .iload_n 0, 1), (1, .i2l, 1), (2, .lconst 0, 1), (3, .ldc2_w 189, 3), (6, .invokestatic 97, 3), (9, .ifCond .eq 45, 3), (12, .iload_n 1, 1), (13, .i2l, 1), (14, .lconst 0, 1), (15, .iload_n 0, 1), (16, .ifCond .ne 10, 3), (19, .iload_n 2, 1), (20, .iconst 1, 1), (21, .isub, 1), (22, .i2l, 1), (23, .goto 21, 3), (26, .iload_n 0, 1), (27, .iconst 1, 1), (28, .if_icmp .ne 10, 3), (31, .iload_n 3, 1), (32, .iconst 1, 1), (33, .isub, 1), (34, .i2l, 1), (35, .goto 9, 3), (38, .iload_n 2, 1), (39, .iload_n 3, 1), (40, .iadd, 1), (41, .iconst 2, 1), (42, .isub, 1), (43, .i2l, 1), (44, .invokestatic 97, 3), (47, .ifCond .eq 7, 3), (50, .iconst 1, 1), (51, .goto 4, 3), (54, .iconst 0, 1), (55, .ireturn, 1)]
theorem ok_X9_isActOf_0 : (tb_X9_isActOf_0.all fun q => decide (decode cX9_isActOf q.1 = .ok q.2)) = true := rdc_all _ 0 _ rfl (by decide +kernel)
def tb_X9_areActs_0 : List (Nat × Instr × Nat) := [(0, .iconst 1, 1), (1, .istore_n 1, 1), (2, .iconst 0, 1), (3, .istore_n 2, 1), (4, .iload_n 2, 1), (5, .aload_n 0, 1), (6, .getfield 71, 3), (9, .if_icmp .ge 79, 3), (12, .iconst 1, 1), (13, .istore_n 3, 1), (14, .iload_n 3, 1), (15, .aload_n 0, 1), (16, .getfield 23, 3), (19, .iconst 4, 1), (20, .iload_n 2, 1), (21, .imul, 1), (22, .iaload, 1), (23, .if_icmp .gt 59, 3), (26, .iload_n 1, 1), (27, .ifCond .eq 47, 3), (30, .aload_n 0, 1), (31, .getfield 23, 3), (34, .iconst 4, 1), (35, .iload_n 2, 1), (36, .imul, 1), (37, .iload_n 3, 1), (38, .iadd, 1), (39, .iaload, 1), (40, .bipush 20, 2), (42, .idiv, 1), (43, .aload_n 0, 1), (44, .getfield 23, 3), (47, .iconst 4, 1), (48, .iload_n 2, 1), (49, .imul, 1), (50, .iload_n 3, 1), (51, .iadd, 1), (52, .iaload, 1), (53, .bipush 20, 2), (55, .irem, 1)]
theorem ok_X9_areActs_0 : (tb_X9_areActs_0.all fun q => decide (decode cX9_areActs q.1 = .ok q.2)) = true := rdc_all _ 0 _ rfl (by decide +kernel)
def tb_X9_areActs_1 : List (Nat × Instr × Nat) := [(56, .aload_n 0, 1), (57, .getfield 50, 3), (60, .aload_n 0, 1), (61, .getfield 54, 3), (64, .invokestatic 191, 3), (67, .ifCond .eq 7, 3), (70, .iconst 1, 1), (71, .goto 4, 3), (74, .iconst 0, 1), (75, .istore_n 1, 1), (76, .iinc 3 1, 3), (79, .goto (-65), 3), (82, .iinc 2 1, 3), (85, .goto (-81), 3), (88, .iload_n 1, 1), (89, .ireturn, 1)]
theorem ok_X9_areActs_1 : (tb_X9_areActs_1.all fun q => decide (decode cX9_areActs q.1 = .ok q.2)) = true := rdc_all _ 0 _ rfl (by decide +kernel)
def tb_X9_text_0 : List (Nat × Instr × Nat) := [(0, .iconst 0, 1), (1, .istore_n 1, 1), (2, .aload_n 0, 1), (3, .iconst 0, 1), (4, .putfield 101, 3), (7, .aload_n 0, 1), (8, .iconst 0, 1), (9, .putfield 110, 3), (12, .aload_n 0, 1), (13, .invokevirtual 44, 3), (16, .aload_n 0, 1), (17, .invokevirtual 159, 3), (20, .aload_n 0, 1), (21, .getfield 101, 3), (24, .ifCond .ne 20, 3), (27, .aload_n 0, 1), (28, .getfield 124, 3), (31, .ifCond .eq 13, 3), (34, .aload_n 0, 1), (35, .invokevirtual 194, 3), (38, .iinc 1 1, 3), (41, .goto (-21), 3), (44, .aload_n 0, 1), (45, .getfield 101, 3), (48, .ifCond .ne 53, 3), (51, .aload_n 0, 1), (52, .aload_n 0, 1), (53, .getfield 68, 3), (56, .ifCond .eq 25, 3), (59, .aload_n 0, 1), (60, .getfield 183, 3), (63, .aload_n 0, 1), (64, .getfield 50, 3), (67, .if_icmp .ne 18, 3), (70, .aload_n 0, 1), (71, .getfield 186, 3), (74, .aload_n 0, 1), (75, .getfield 54, 3), (78, .if_icmp .ne 7, 3), (81, .iconst 1, 1)]
theorem ok_X9_text_0 : (tb_X9_text_0.all fun q => decide (decode cX9_text q.1 = .ok q.2)) = true := rdc_all _ 0 _ rfl (by decide +kernel)
def tb_X9_text_1 : List (Nat × Instr × Nat) := [(82, .goto 4, 3), (85, .iconst 0, 1), (86, .bipush 6, 2), (88, .invokevirtual 138, 3), (91, .aload_n 0, 1), (92, .aload_n 0, 1), (93, .invokevirtual 197, 3), (96, .bipush 7, 2), (98, .invokevirtual 138, 3), (101, .aload_n 0, 1), (102, .iconst 0, 1), (103, .putfield 92, 3), (106, .aload_n 0, 1), (107, .getfield 101, 3), (110, .ifCond .le 11, 3), (113, .bipush (-10), 2), (115, .aload_n 0, 1), (116, .getfield 107, 3), (119, .isub, 1), (120, .ireturn, 1), (121, .aload_n 0, 1), (122, .invokevirtual 47, 3), (125, .iload_n 1, 1), (126, .ireturn, 1)]
theorem ok_X9_text_1 : (tb_X9_text_1.all fun q => decide (decode cX9_text q.1 = .ok q.2)) = true := rdc_all _ 0 _ rfl (by decide +kernel)
def tb_X9_fault_0 : List (Nat × Instr × Nat) := [(0, .aload_n 0, 1), (1, .getfield 101, 3), (4, .ireturn, 1)]
theorem ok_X9_fault_0 : (tb_X9_fault_0.all fun q => decide (decode cX9_fault q.1 = .ok q.2)) = true := rdc_all _ 0 _ rfl (by decide +kernel)
def tb_X9_rule_0 : List (Nat × Instr × Nat) := [(0, .iload_n 1, 1), (1, .tableswitch 70 0 4 #[35, 40, 45, 53, 58], 35), (36, .aload_n 0, 1), (37, .getfield 74, 3), (40, .ireturn, 1), (41, .aload_n 0, 1), (42, .getfield 77, 3), (45, .ireturn, 1), (46, .aload_n 0, 1), (47, .getfield 86, 3), (50, .invokestatic 200, 3), (53, .ireturn, 1), (54, .aload_n 0, 1), (55, .getfield 89, 3), (58, .ireturn, 1), (59, .aload_n 0, 1), (60, .getfield 74, 3), (63, .aload_n 0, 1), (64, .getfield 77, 3), (67, .iadd, 1), (68, .iconst 1, 1), (69, .isub, 1), (70, .ireturn, 1), (71, .iconst (-1), 1), (72, .ireturn, 1)]
theorem ok_X9_rule_0 : (tb_X9_rule_0.all fun q => decide (decode cX9_rule q.1 = .ok q.2)) = true := rdc_all _ 0 _ rfl (by decide +kernel)
def tb_X9_day_0 : List (Nat × Instr × Nat) := [(0, .iload_n 1, 1), (1, .i2l, 1), (2, .lconst 0, 1), (3, .aload_n 0, 1), (4, .getfield 89, 3), (7, .iconst 1, 1), (8, .isub, 1), (9, .i2l, 1), (10, .invokestatic 97, 3), (13, .ifCond .eq 25, 3), (16, .iload_n 2, 1), (17, .i2l, 1), (18, .ldc2_w 204, 3), (21, .aload_n 0, 1), (22, .getfield 7, 3), (25, .iconst 4, 1), (26, .iload_n 1, 1), (27, .imul, 1), (28, .iaload, 1), (29, .iconst 1, 1), (30, .isub, 1), (31, .i2l, 1), (32, .invokestatic 97, 3), (35, .ifCond .ne 7, 3), (38, .iconst (-1), 1), (39, .goto 15, 3), (42, .aload_n 0, 1), (43, .getfield 7, 3), (46, .iconst 4, 1), (47, .iload_n 1, 1), (48, .imul, 1), (49, .iload_n 2, 1), (50, .iadd, 1), (51, .iconst 1, 1), (52, .iadd, 1), (53, .iaload, 1), (54, .ireturn, 1)]
theorem ok_X9_day_0 : (tb_X9_day_0.all fun q => decide (decode cX9_day q.1 = .ok q.2)) = true := rdc_all _ 0 _ rfl (by decide +kernel)
def tb_X9_cloth_0 : List (Nat × Instr × Nat) := [(0, .iload_n 1, 1), (1, .ifCond .ne 10, 3), (4, .aload_n 0, 1), (5, .getfield 80, 3), (8, .goto 23, 3), (11, .iload_n 1, 1), (12, .iconst 1, 1), (13, .if_icmp .ne 17, 3), (16, .aload_n 0, 1), (17, .getfield 86, 3), (20, .ifCond .eq 10, 3), (23, .aload_n 0, 1), (24, .getfield 83, 3), (27, .goto 4, 3), (30, .lconst 0, 1), (31, .lreturn, 1)]
theorem ok_X9_cloth_0 : (tb_X9_cloth_0.all fun q => decide (decode cX9_cloth q.1 = .ok q.2)) = true := rdc_all _ 0 _ rfl (by decide +kernel)
def tb_X9_isSquare_0 : List (Nat × Instr × Nat) := [(0, .iload_n 1, 1), (1, .i2l, 1), (2, .lconst 0, 1), (3, .aload_n 0, 1), (4, .getfield 74, 3), (7, .iconst 1, 1), (8, .isub, 1), (9, .i2l, 1), (10, .invokestatic 97, 3), (13, .ifCond .eq 23, 3), (16, .iload_n 2, 1), (17, .i2l, 1), (18, .lconst 0, 1), (19, .aload_n 0, 1), (20, .getfield 77, 3), (23, .iconst 1, 1), (24, .isub, 1), (25, .i2l, 1), (26, .invokestatic 97, 3), (29, .ifCond .eq 7, 3), (32, .iconst 1, 1), (33, .goto 4, 3), (36, .iconst 0, 1), (37, .ireturn, 1)]
theorem ok_X9_isSquare_0 : (tb_X9_isSquare_0.all fun q => decide (decode cX9_isSquare q.1 = .ok q.2)) = true := rdc_all _ 0 _ rfl (by decide +kernel)
def tb_X9_isDark_0 : List (Nat × Instr × Nat) := [(0, .lload_n 0, 1), (1, .bipush 8, 2), (3, .iload_n 2, 1), (4, .imul, 1), (5, .iload_n 3, 1), (6, .iadd, 1), (7, .lshr, 1), (8, .lconst 1, 1), (9, .land, 1), (10, .l2i, 1), (11, .ireturn, 1)]
theorem ok_X9_isDark_0 : (tb_X9_isDark_0.all fun q => decide (decode cX9_isDark q.1 = .ok q.2)) = true := rdc_all _ 0 _ rfl (by decide +kernel)
def tb_X9_square_0 : List (Nat × Instr × Nat) := [(0, .aload_n 0, 1), (1, .iload_n 1, 1), (2, .iload_n 2, 1), (3, .invokevirtual 206, 3), (6, .ifCond .eq 15, 3), (9, .aload_n 0, 1), (10, .getfield 80, 3), (13, .iload_n 1, 1), (14, .iload_n 2, 1), (15, .invokestatic 210, 3), (18, .goto 4, 3), (21, .iconst (-1), 1), (22, .ireturn, 1)]
theorem ok_X9_square_0 : (tb_X9_square_0.all fun q => decide (decode cX9_square q.1 = .ok q.2)) = true := rdc_all _ 0 _ rfl (by decide +kernel)
def tb_X9_paint_0 : List (Nat × Instr × Nat) := [(0, .aload_n 0, 1), (1, .iload_n 1, 1), (2, .iload_n 2, 1), (3, .invokevirtual 206, 3), (6, .ifCond .ne 5, 3), (9, .iconst (-1), 1), (10, .ireturn, 1), (11, .aload_n 0, 1), (12, .getfield 80, 3), (15, .iload_n 1, 1), (16, .iload_n 2, 1), (17, .invokestatic 210, 3), (20, .istore 4, 2), (22, .aload_n 0, 1), (23, .iload_n 3, 1), (24, .ifCond .eq 16, 3), (27, .aload_n 0, 1), (28, .getfield 80, 3), (31, .iload_n 1, 1), (32, .iload_n 2, 1), (33, .invokestatic 155, 3), (36, .lor, 1), (37, .goto 17, 3), (40, .aload_n 0, 1), (41, .getfield 80, 3), (44, .iload_n 1, 1), (45, .iload_n 2, 1), (46, .invokestatic 155, 3), (49, .ldc2_w 204, 3), (52, .lxor, 1), (53, .land, 1), (54, .putfield 80, 3), (57, .iload 4, 2), (59, .ireturn, 1)]
theorem ok_X9_paint_0 : (tb_X9_paint_0.all fun q => decide (decode cX9_paint q.1 = .ok q.2)) = true := rdc_all _ 0 _ rfl (by decide +kernel)
def tb_X9_wish_0 : List (Nat × Instr × Nat) := [(0, .aload_n 0, 1), (1, .iload_n 1, 1), (2, .iload_n 2, 1), (3, .invokevirtual 206, 3), (6, .ifCond .ne 5, 3), (9, .iconst (-1), 1), (10, .ireturn, 1), (11, .aload_n 0, 1), (12, .getfield 86, 3), (15, .ifCond .ne 6, 3), (18, .bipush (-2), 2), (20, .ireturn, 1), (21, .aload_n 0, 1), (22, .getfield 83, 3), (25, .iload_n 1, 1), (26, .iload_n 2, 1), (27, .invokestatic 210, 3), (30, .istore 4, 2), (32, .aload_n 0, 1), (33, .iload_n 3, 1), (34, .ifCond .eq 16, 3), (37, .aload_n 0, 1), (38, .getfield 83, 3), (41, .iload_n 1, 1), (42, .iload_n 2, 1), (43, .invokestatic 155, 3), (46, .lor, 1), (47, .goto 17, 3), (50, .aload_n 0, 1), (51, .getfield 83, 3), (54, .iload_n 1, 1), (55, .iload_n 2, 1), (56, .invokestatic 155, 3), (59, .ldc2_w 204, 3), (62, .lxor, 1), (63, .land, 1), (64, .putfield 83, 3), (67, .iload 4, 2), (69, .ireturn, 1)]
theorem ok_X9_wish_0 : (tb_X9_wish_0.all fun q => decide (decode cX9_wish q.1 = .ok q.2)) = true := rdc_all _ 0 _ rfl (by decide +kernel)
def tb_X9_actSet_0 : List (Nat × Instr × Nat) := [(0, .lconst 0, 1), (1, .lstore_n 3, 1), (2, .iconst 0, 1), (3, .istore 5, 2), (5, .iload 5, 2), (7, .aload_n 0, 1), (8, .getfield 74, 3), (11, .if_icmp .ge 99, 3), (14, .iconst 0, 1), (15, .istore 6, 2), (17, .iload 6, 2), (19, .aload_n 0, 1), (20, .getfield 77, 3), (23, .if_icmp .ge 81, 3), (26, .iload_n 1, 1), (27, .ifCond .ne 17, 3), (30, .iload 5, 2), (32, .iload_n 2, 1), (33, .if_icmp .ne 7, 3), (36, .iconst 1, 1), (37, .goto 40, 3), (40, .iconst 0, 1), (41, .goto 36, 3), (44, .iload_n 1, 1), (45, .iconst 1, 1), (46, .if_icmp .ne 17, 3), (49, .iload 6, 2), (51, .iload_n 2, 1), (52, .if_icmp .ne 7, 3), (55, .iconst 1, 1), (56, .goto 21, 3), (59, .iconst 0, 1), (60, .goto 17, 3), (63, .iload 5, 2), (65, .iload 6, 2), (67, .iadd, 1), (68, .iload_n 2, 1), (69, .if_icmp .ne 7, 3), (72, .iconst 1, 1), (73, .goto 4, 3)]
theorem ok_X9_actSet_0 : (tb_X9_actSet_0.all fun q => decide (decode cX9_actSet q.1 = .ok q.2)) = true := rdc_all _ 0 _ rfl (by decide +kernel)
def tb_X9_actSet_1 : List (Nat × Instr × Nat) := [(76, .iconst 0, 1), (77, .istore 7, 2), (79, .lload_n 3, 1), (80, .iload 7, 2), (82, .ifCond .eq 13, 3), (85, .iload 5, 2), (87, .iload 6, 2), (89, .invokestatic 155, 3), (92, .goto 4, 3), (95, .lconst 0, 1), (96, .lor, 1), (97, .lstore_n 3, 1), (98, .iinc 6 1, 3), (101, .goto (-84), 3), (104, .iinc 5 1, 3), (107, .goto (-102), 3), (110, .lload_n 3, 1), (111, .lreturn, 1)]
theorem ok_X9_actSet_1 : (tb_X9_actSet_1.all fun q => decide (decode cX9_actSet q.1 = .ok q.2)) = true := rdc_all _ 0 _ rfl (by decide +kernel)
def tb_X9_turnSet_0 : List (Nat × Instr × Nat) := [(0, .lconst 0, 1), (1, .lstore_n 3, 1), (2, .iconst 0, 1), (3, .istore 5, 2), (5, .iload 5, 2), (7, .aload_n 0, 1), (8, .getfield 74, 3), (11, .if_icmp .ge 56, 3), (14, .iconst 0, 1), (15, .istore 6, 2), (17, .iload 6, 2), (19, .aload_n 0, 1), (20, .getfield 77, 3), (23, .if_icmp .ge 38, 3), (26, .lload_n 3, 1), (27, .iload_n 1, 1), (28, .iload 5, 2), (30, .ishr, 1), (31, .iload_n 2, 1), (32, .iload 6, 2), (34, .ishr, 1), (35, .ixor, 1), (36, .iconst 1, 1), (37, .iand, 1), (38, .iconst 1, 1), (39, .if_icmp .ne 13, 3), (42, .iload 5, 2), (44, .iload 6, 2), (46, .invokestatic 155, 3), (49, .goto 4, 3), (52, .lconst 0, 1), (53, .lor, 1), (54, .lstore_n 3, 1), (55, .iinc 6 1, 3), (58, .goto (-41), 3), (61, .iinc 5 1, 3), (64, .goto (-59), 3), (67, .lload_n 3, 1), (68, .lreturn, 1)]
theorem ok_X9_turnSet_0 : (tb_X9_turnSet_0.all fun q => decide (decode cX9_turnSet q.1 = .ok q.2)) = true := rdc_all _ 0 _ rfl (by decide +kernel)
def tb_X9_isAct_0 : List (Nat × Instr × Nat) := [(0, .iload_n 1, 1), (1, .iload_n 2, 1), (2, .aload_n 0, 1), (3, .getfield 74, 3), (6, .aload_n 0, 1), (7, .getfield 77, 3), (10, .invokestatic 191, 3), (13, .ireturn, 1)]
theorem ok_X9_isAct_0 : (tb_X9_isAct_0.all fun q => decide (decode cX9_isAct q.1 = .ok q.2)) = true := rdc_all _ 0 _ rfl (by decide +kernel)
def tb_X9_act_0 : List (Nat × Instr × Nat) := [(0, .aload_n 0, 1), (1, .iload_n 1, 1), (2, .iload_n 2, 1), (3, .invokevirtual 214, 3), (6, .ifCond .ne 5, 3), (9, .iconst (-1), 1), (10, .ireturn, 1), (11, .aload_n 0, 1), (12, .dup, 1), (13, .getfield 80, 3), (16, .aload_n 0, 1), (17, .iload_n 1, 1), (18, .iload_n 2, 1), (19, .invokevirtual 217, 3), (22, .lxor, 1), (23, .putfield 80, 3), (26, .aload_n 0, 1), (27, .getfield 80, 3), (30, .invokestatic 220, 3), (33, .ireturn, 1)]
theorem ok_X9_act_0 : (tb_X9_act_0.all fun q => decide (decode cX9_act q.1 = .ok q.2)) = true := rdc_all _ 0 _ rfl (by decide +kernel)
def tb_X9_turn_0 : List (Nat × Instr × Nat) := [(0, .iload_n 1, 1), (1, .i2l, 1), (2, .lconst 0, 1), (3, .iconst 1, 1), (4, .aload_n 0, 1), (5, .getfield 74, 3), (8, .ishl, 1), (9, .iconst 1, 1), (10, .isub, 1), (11, .i2l, 1), (12, .invokestatic 97, 3), (15, .ifCond .eq 21, 3), (18, .iload_n 2, 1), (19, .i2l, 1), (20, .lconst 0, 1), (21, .iconst 1, 1), (22, .aload_n 0, 1), (23, .getfield 77, 3), (26, .ishl, 1), (27, .iconst 1, 1), (28, .isub, 1), (29, .i2l, 1), (30, .invokestatic 97, 3), (33, .ifCond .ne 5, 3), (36, .iconst (-1), 1), (37, .ireturn, 1), (38, .aload_n 0, 1), (39, .dup, 1), (40, .getfield 80, 3), (43, .aload_n 0, 1), (44, .iload_n 1, 1), (45, .iload_n 2, 1), (46, .invokevirtual 224, 3), (49, .lxor, 1), (50, .putfield 80, 3), (53, .aload_n 0, 1), (54, .getfield 80, 3), (57, .invokestatic 220, 3), (60, .ireturn, 1)]
theorem ok_X9_turn_0 : (tb_X9_turn_0.all fun q => decide (decode cX9_turn q.1 = .ok q.2)) = true := rdc_all _ 0 _ rfl (by decide +kernel)
def tb_X9_go_0 : List (Nat × Instr × Nat) := [(0, .iload_n 1, 1), (1, .i2l, 1), (2, .lconst 0, 1), (3, .aload_n 0, 1), (4, .getfield 89, 3), (7, .i2l, 1), (8, .invokestatic 97, 3), (11, .ifCond .ne 5, 3), (14, .iconst (-1), 1), (15, .ireturn, 1), (16, .iconst 0, 1), (17, .istore_n 2, 1), (18, .iload_n 2, 1), (19, .iload_n 1, 1), (20, .if_icmp .ge 68, 3), (23, .iconst 1, 1), (24, .istore_n 3, 1), (25, .iload_n 3, 1), (26, .aload_n 0, 1), (27, .getfield 7, 3), (30, .iconst 4, 1), (31, .iload_n 2, 1), (32, .imul, 1), (33, .iaload, 1), (34, .if_icmp .gt 48, 3), (37, .aload_n 0, 1), (38, .dup, 1), (39, .getfield 80, 3), (42, .aload_n 0, 1), (43, .aload_n 0, 1), (44, .getfield 7, 3), (47, .iconst 4, 1), (48, .iload_n 2, 1), (49, .imul, 1), (50, .iload_n 3, 1), (51, .iadd, 1), (52, .iaload, 1), (53, .bipush 20, 2), (55, .idiv, 1), (56, .aload_n 0, 1)]
theorem ok_X9_go_0 : (tb_X9_go_0.all fun q => decide (decode cX9_go q.1 = .ok q.2)) = true := rdc_all _ 0 _ rfl (by decide +kernel)
def tb_X9_go_1 : List (Nat × Instr × Nat) := [(57, .getfield 7, 3), (60, .iconst 4, 1), (61, .iload_n 2, 1), (62, .imul, 1), (63, .iload_n 3, 1), (64, .iadd, 1), (65, .iaload, 1), (66, .bipush 20, 2), (68, .irem, 1), (69, .invokevirtual 217, 3), (72, .lxor, 1), (73, .putfield 80, 3), (76, .iinc 3 1, 3), (79, .goto (-54), 3), (82, .iinc 2 1, 3), (85, .goto (-67), 3), (88, .aload_n 0, 1), (89, .getfield 80, 3), (92, .invokestatic 220, 3), (95, .ireturn, 1)]
theorem ok_X9_go_1 : (tb_X9_go_1.all fun q => decide (decode cX9_go q.1 = .ok q.2)) = true := rdc_all _ 0 _ rfl (by decide +kernel)
def tb_X9_formOf_0 : List (Nat × Instr × Nat) := [(0, .lconst 0, 1), (1, .lstore 4, 2), (3, .iconst 0, 1), (4, .istore 6, 2), (6, .iload 6, 2), (8, .iload_n 2, 1), (9, .if_icmp .ge 79, 3), (12, .iconst 0, 1), (13, .istore 7, 2), (15, .iload 7, 2), (17, .iload_n 3, 1), (18, .if_icmp .ge 64, 3), (21, .lload_n 0, 1), (22, .iload 6, 2), (24, .iload 7, 2), (26, .invokestatic 210, 3), (29, .lload_n 0, 1), (30, .iload 6, 2), (32, .iconst 0, 1), (33, .invokestatic 210, 3), (36, .ixor, 1), (37, .lload_n 0, 1), (38, .iconst 0, 1), (39, .iload 7, 2), (41, .invokestatic 210, 3), (44, .ixor, 1), (45, .lload_n 0, 1), (46, .iconst 0, 1), (47, .iconst 0, 1), (48, .invokestatic 210, 3), (51, .ixor, 1), (52, .istore 8, 2), (54, .lload 4, 2), (56, .iload 8, 2), (58, .iconst 1, 1), (59, .if_icmp .ne 13, 3), (62, .iload 6, 2), (64, .iload 7, 2), (66, .invokestatic 155, 3), (69, .goto 4, 3)]
theorem ok_X9_formOf_0 : (tb_X9_formOf_0.all fun q => decide (decode cX9_formOf q.1 = .ok q.2)) = true := rdc_all _ 0 _ rfl (by decide +kernel)
def tb_X9_formOf_1 : List (Nat × Instr × Nat) := [(72, .lconst 0, 1), (73, .lor, 1), (74, .lstore 4, 2), (76, .iinc 7 1, 3), (79, .goto (-64), 3), (82, .iinc 6 1, 3), (85, .goto (-79), 3), (88, .lload 4, 2), (90, .lreturn, 1)]
theorem ok_X9_formOf_1 : (tb_X9_formOf_1.all fun q => decide (decode cX9_formOf q.1 = .ok q.2)) = true := rdc_all _ 0 _ rfl (by decide +kernel)
def tb_X9_formNow_0 : List (Nat × Instr × Nat) := [(0, .lload_n 1, 1), (1, .aload_n 0, 1), (2, .getfield 74, 3), (5, .aload_n 0, 1), (6, .getfield 77, 3), (9, .invokestatic 227, 3), (12, .lreturn, 1)]
theorem ok_X9_formNow_0 : (tb_X9_formNow_0.all fun q => decide (decode cX9_formNow q.1 = .ok q.2)) = true := rdc_all _ 0 _ rfl (by decide +kernel)
def tb_X9_form_0 : List (Nat × Instr × Nat) := [(0, .iload_n 1, 1), (1, .ifCond .ne 14, 3), (4, .aload_n 0, 1), (5, .aload_n 0, 1), (6, .getfield 80, 3), (9, .invokevirtual 231, 3), (12, .goto 29, 3), (15, .iload_n 1, 1), (16, .iconst 1, 1), (17, .if_icmp .ne 21, 3), (20, .aload_n 0, 1), (21, .getfield 86, 3), (24, .ifCond .eq 14, 3), (27, .aload_n 0, 1), (28, .aload_n 0, 1), (29, .getfield 83, 3), (32, .invokevirtual 231, 3), (35, .goto 6, 3), (38, .ldc2_w 204, 3), (41, .lreturn, 1)]
theorem ok_X9_form_0 : (tb_X9_form_0.all fun q => decide (decode cX9_form q.1 = .ok q.2)) = true := rdc_all _ 0 _ rfl (by decide +kernel)
def tb_X9_forms_0 : List (Nat × Instr × Nat) := [(0, .lconst 1, 1), (1, .aload_n 0, 1), (2, .getfield 74, 3), (5, .iconst 1, 1), (6, .isub, 1), (7, .aload_n 0, 1), (8, .getfield 77, 3), (11, .iconst 1, 1), (12, .isub, 1), (13, .imul, 1), (14, .lshl, 1), (15, .lreturn, 1)]
theorem ok_X9_forms_0 : (tb_X9_forms_0.all fun q => decide (decode cX9_forms q.1 = .ok q.2)) = true := rdc_all _ 0 _ rfl (by decide +kernel)
def tb_X9_isImage_0 : List (Nat × Instr × Nat) := [(0, .iload_n 0, 1), (1, .i2l, 1), (2, .lconst 0, 1), (3, .lconst 1, 1), (4, .invokestatic 97, 3), (7, .ireturn, 1)]
theorem ok_X9_isImage_0 : (tb_X9_isImage_0.all fun q => decide (decode cX9_isImage q.1 = .ok q.2)) = true := rdc_all _ 0 _ rfl (by decide +kernel)
def tb_X9_isKept_0 : List (Nat × Instr × Nat) := [(0, .aload_n 0, 1), (1, .getfield 17, 3), (4, .iload_n 1, 1), (5, .iaload, 1), (6, .ifCond .le 7, 3), (9, .iconst 1, 1), (10, .goto 4, 3), (13, .iconst 0, 1), (14, .ireturn, 1)]
theorem ok_X9_isKept_0 : (tb_X9_isKept_0.all fun q => decide (decode cX9_isKept q.1 = .ok q.2)) = true := rdc_all _ 0 _ rfl (by decide +kernel)
def tb_X9_isOfSize_0 : List (Nat × Instr × Nat) := [(0, .aload_n 0, 1), (1, .getfield 17, 3), (4, .iload_n 1, 1), (5, .iaload, 1), (6, .aload_n 0, 1), (7, .getfield 74, 3), (10, .if_icmp .ne 20, 3), (13, .aload_n 0, 1), (14, .getfield 20, 3), (17, .iload_n 1, 1), (18, .iaload, 1), (19, .aload_n 0, 1), (20, .getfield 77, 3), (23, .if_icmp .ne 7, 3), (26, .iconst 1, 1), (27, .goto 4, 3), (30, .iconst 0, 1), (31, .ireturn, 1)]
theorem ok_X9_isOfSize_0 : (tb_X9_isOfSize_0.all fun q => decide (decode cX9_isOfSize q.1 = .ok q.2)) = true := rdc_all _ 0 _ rfl (by decide +kernel)
def tb_X9_alike_0 : List (Nat × Instr × Nat) := [(0, .iload_n 1, 1), (1, .invokestatic 235, 3), (4, .ifCond .ne 5, 3), (7, .iconst (-1), 1), (8, .ireturn, 1), (9, .aload_n 0, 1), (10, .iload_n 1, 1), (11, .invokevirtual 239, 3), (14, .ifCond .ne 6, 3), (17, .bipush (-2), 2), (19, .ireturn, 1), (20, .aload_n 0, 1), (21, .iload_n 1, 1), (22, .invokevirtual 242, 3), (25, .ifCond .eq 27, 3), (28, .aload_n 0, 1), (29, .aload_n 0, 1), (30, .getfield 80, 3), (33, .aload_n 0, 1), (34, .getfield 13, 3), (37, .iload_n 1, 1), (38, .laload, 1), (39, .lxor, 1), (40, .invokevirtual 231, 3), (43, .lconst 0, 1), (44, .lcmp, 1), (45, .ifCond .ne 7, 3), (48, .iconst 1, 1), (49, .goto 4, 3), (52, .iconst 0, 1), (53, .invokestatic 200, 3), (56, .ireturn, 1)]
theorem ok_X9_alike_0 : (tb_X9_alike_0.all fun q => decide (decode cX9_alike q.1 = .ok q.2)) = true := rdc_all _ 0 _ rfl (by decide +kernel)
def tb_X9_findPlan_0 : List (Nat × Instr × Nat) := [(0, .aload_n 0, 1), (1, .lload_n 1, 1), (2, .invokevirtual 231, 3), (5, .lconst 0, 1), (6, .lcmp, 1), (7, .ifCond .eq 5, 3), (10, .iconst 0, 1), (11, .ireturn, 1), (12, .iconst 0, 1), (13, .istore_n 3, 1), (14, .iconst 0, 1), (15, .istore 4, 2), (17, .iconst 0, 1), (18, .istore 5, 2), (20, .iload 5, 2), (22, .aload_n 0, 1), (23, .getfield 77, 3), (26, .if_icmp .ge 24, 3), (29, .iload 4, 2), (31, .lload_n 1, 1), (32, .iconst 0, 1), (33, .iload 5, 2), (35, .invokestatic 210, 3), (38, .iload 5, 2), (40, .ishl, 1), (41, .ior, 1), (42, .istore 4, 2), (44, .iinc 5 1, 3), (47, .goto (-27), 3), (50, .iconst 0, 1), (51, .istore 5, 2), (53, .iload 5, 2), (55, .aload_n 0, 1), (56, .getfield 74, 3), (59, .if_icmp .ge 29, 3), (62, .iload_n 3, 1), (63, .lload_n 1, 1), (64, .iload 5, 2), (66, .iconst 0, 1), (67, .invokestatic 210, 3)]
theorem ok_X9_findPlan_0 : (tb_X9_findPlan_0.all fun q => decide (decode cX9_findPlan q.1 = .ok q.2)) = true := rdc_all _ 0 _ rfl (by decide +kernel)
def tb_X9_findPlan_1 : List (Nat × Instr × Nat) := [(70, .lload_n 1, 1), (71, .iconst 0, 1), (72, .iconst 0, 1), (73, .invokestatic 210, 3), (76, .ixor, 1), (77, .iload 5, 2), (79, .ishl, 1), (80, .ior, 1), (81, .istore_n 3, 1), (82, .iinc 5 1, 3), (85, .goto (-32), 3), (88, .iload_n 3, 1), (89, .i2l, 1), (90, .invokestatic 220, 3), (93, .iload 4, 2), (95, .i2l, 1), (96, .invokestatic 220, 3), (99, .iadd, 1), (100, .istore 5, 2), (102, .iconst 2, 1), (103, .iload 5, 2), (105, .imul, 1), (106, .aload_n 0, 1), (107, .getfield 74, 3), (110, .aload_n 0, 1), (111, .getfield 77, 3), (114, .iadd, 1), (115, .if_icmp .le 7, 3), (118, .iconst 1, 1), (119, .goto 4, 3), (122, .iconst 0, 1), (123, .istore 6, 2), (125, .aload_n 0, 1), (126, .iload 6, 2), (128, .ifCond .eq 16, 3), (131, .iload_n 3, 1), (132, .iconst 1, 1), (133, .aload_n 0, 1), (134, .getfield 74, 3), (137, .ishl, 1)]
theorem ok_X9_findPlan_1 : (tb_X9_findPlan_1.all fun q => decide (decode cX9_findPlan q.1 = .ok q.2)) = true := rdc_all _ 0 _ rfl (by decide +kernel)
def tb_X9_findPlan_2 : List (Nat × Instr × Nat) := [(138, .iconst 1, 1), (139, .isub, 1), (140, .ixor, 1), (141, .goto 4, 3), (144, .iload_n 3, 1), (145, .putfield 245, 3), (148, .aload_n 0, 1), (149, .iload 6, 2), (151, .ifCond .eq 17, 3), (154, .iload 4, 2), (156, .iconst 1, 1), (157, .aload_n 0, 1), (158, .getfield 77, 3), (161, .ishl, 1), (162, .iconst 1, 1), (163, .isub, 1), (164, .ixor, 1), (165, .goto 5, 3), (168, .iload 4, 2), (170, .putfield 248, 3), (173, .iconst 2, 1), (174, .iload 5, 2), (176, .imul, 1), (177, .aload_n 0, 1), (178, .getfield 74, 3), (181, .aload_n 0, 1), (182, .getfield 77, 3), (185, .iadd, 1), (186, .if_icmp .ne 57, 3), (189, .iload_n 3, 1), (190, .iconst 1, 1), (191, .aload_n 0, 1), (192, .getfield 74, 3), (195, .ishl, 1), (196, .iconst 1, 1), (197, .isub, 1), (198, .ixor, 1), (199, .istore 7, 2), (201, .aload_n 0, 1), (202, .iload 7, 2)]
theorem ok_X9_findPlan_2 : (tb_X9_findPlan_2.all fun q => decide (decode cX9_findPlan q.1 = .ok q.2)) = true := rdc_all _ 0 _ rfl (by decide +kernel)
def tb_X9_findPlan_3 : List (Nat × Instr × Nat) := [(204, .iload_n 3, 1), (205, .if_icmp .ge 17, 3), (208, .iload 4, 2), (210, .iconst 1, 1), (211, .aload_n 0, 1), (212, .getfield 77, 3), (215, .ishl, 1), (216, .iconst 1, 1), (217, .isub, 1), (218, .ixor, 1), (219, .goto 5, 3), (222, .iload 4, 2), (224, .putfield 248, 3), (227, .aload_n 0, 1), (228, .iload 7, 2), (230, .iload_n 3, 1), (231, .if_icmp .ge 8, 3), (234, .iload 7, 2), (236, .goto 4, 3), (239, .iload_n 3, 1), (240, .putfield 245, 3), (243, .iconst 1, 1), (244, .ireturn, 1)]
theorem ok_X9_findPlan_3 : (tb_X9_findPlan_3.all fun q => decide (decode cX9_findPlan q.1 = .ok q.2)) = true := rdc_all _ 0 _ rfl (by decide +kernel)
def tb_X9_planTold_0 : List (Nat × Instr × Nat) := [(0, .aload_n 0, 1), (1, .getfield 245, 3), (4, .i2l, 1), (5, .invokestatic 220, 3), (8, .istore_n 2, 1), (9, .aload_n 0, 1), (10, .getfield 248, 3), (13, .i2l, 1), (14, .invokestatic 220, 3), (17, .istore_n 3, 1), (18, .iload_n 1, 1), (19, .ifCond .ne 9, 3), (22, .iload_n 2, 1), (23, .iload_n 3, 1), (24, .iadd, 1), (25, .goto 37, 3), (28, .iload_n 1, 1), (29, .iconst 1, 1), (30, .if_icmp .ne 10, 3), (33, .aload_n 0, 1), (34, .getfield 245, 3), (37, .goto 25, 3), (40, .iload_n 1, 1), (41, .iconst 2, 1), (42, .if_icmp .ne 10, 3), (45, .aload_n 0, 1), (46, .getfield 248, 3), (49, .goto 13, 3), (52, .iload_n 2, 1), (53, .iload_n 3, 1), (54, .if_icmp .le 7, 3), (57, .iload_n 2, 1), (58, .goto 4, 3), (61, .iload_n 3, 1), (62, .ireturn, 1)]
theorem ok_X9_planTold_0 : (tb_X9_planTold_0.all fun q => decide (decode cX9_planTold q.1 = .ok q.2)) = true := rdc_all _ 0 _ rfl (by decide +kernel)
def tb_X9_plan_0 : List (Nat × Instr × Nat) := [(0, .iload_n 1, 1), (1, .i2l, 1), (2, .lconst 0, 1), (3, .ldc2_w 251, 3), (6, .invokestatic 97, 3), (9, .ifCond .ne 5, 3), (12, .iconst (-1), 1), (13, .ireturn, 1), (14, .aload_n 0, 1), (15, .getfield 86, 3), (18, .ifCond .ne 6, 3), (21, .bipush (-2), 2), (23, .ireturn, 1), (24, .aload_n 0, 1), (25, .aload_n 0, 1), (26, .getfield 80, 3), (29, .aload_n 0, 1), (30, .getfield 83, 3), (33, .lxor, 1), (34, .invokevirtual 253, 3), (37, .ifCond .eq 11, 3), (40, .aload_n 0, 1), (41, .iload_n 1, 1), (42, .invokevirtual 257, 3), (45, .goto 5, 3), (48, .bipush (-4), 2), (50, .ireturn, 1)]
theorem ok_X9_plan_0 : (tb_X9_plan_0.all fun q => decide (decode cX9_plan q.1 = .ok q.2)) = true := rdc_all _ 0 _ rfl (by decide +kernel)
def tb_X9_findNearest_0 : List (Nat × Instr × Nat) := [(0, .aload_n 0, 1), (1, .bipush 65, 2), (3, .putfield 260, 3), (6, .iconst 0, 1), (7, .istore_n 3, 1), (8, .iload_n 3, 1), (9, .iconst 1, 1), (10, .aload_n 0, 1), (11, .getfield 74, 3), (14, .ishl, 1), (15, .if_icmp .ge 136, 3), (18, .lload_n 1, 1), (19, .aload_n 0, 1), (20, .iload_n 3, 1), (21, .iconst 0, 1), (22, .invokevirtual 224, 3), (25, .lxor, 1), (26, .lstore 4, 2), (28, .iconst 0, 1), (29, .istore 6, 2), (31, .iconst 0, 1), (32, .istore 7, 2), (34, .iconst 0, 1), (35, .istore 8, 2), (37, .iload 8, 2), (39, .aload_n 0, 1), (40, .getfield 77, 3), (43, .if_icmp .ge 76, 3), (46, .lload 4, 2), (48, .aload_n 0, 1), (49, .iconst 1, 1), (50, .iload 8, 2), (52, .invokevirtual 217, 3), (55, .land, 1), (56, .invokestatic 220, 3), (59, .istore 9, 2), (61, .iload 7, 2), (63, .iconst 2, 1), (64, .iload 9, 2), (66, .imul, 1)]
theorem ok_X9_findNearest_0 : (tb_X9_findNearest_0.all fun q => decide (decode cX9_findNearest q.1 = .ok q.2)) = true := rdc_all _ 0 _ rfl (by decide +kernel)
def tb_X9_findNearest_1 : List (Nat × Instr × Nat) := [(67, .aload_n 0, 1), (68, .getfield 74, 3), (71, .if_icmp .le 10, 3), (74, .iconst 1, 1), (75, .iload 8, 2), (77, .ishl, 1), (78, .goto 4, 3), (81, .iconst 0, 1), (82, .ior, 1), (83, .istore 7, 2), (85, .iload 6, 2), (87, .iconst 2, 1), (88, .iload 9, 2), (90, .imul, 1), (91, .aload_n 0, 1), (92, .getfield 74, 3), (95, .if_icmp .le 13, 3), (98, .aload_n 0, 1), (99, .getfield 74, 3), (102, .iload 9, 2), (104, .isub, 1), (105, .goto 5, 3), (108, .iload 9, 2), (110, .iadd, 1), (111, .istore 6, 2), (113, .iinc 8 1, 3), (116, .goto (-79), 3), (119, .iload 6, 2), (121, .aload_n 0, 1), (122, .getfield 260, 3), (125, .if_icmp .ge 20, 3), (128, .aload_n 0, 1), (129, .iload 6, 2), (131, .putfield 260, 3), (134, .aload_n 0, 1), (135, .iload_n 3, 1), (136, .putfield 263, 3), (139, .aload_n 0, 1), (140, .iload 7, 2), (142, .putfield 266, 3)]
theorem ok_X9_findNearest_1 : (tb_X9_findNearest_1.all fun q => decide (decode cX9_findNearest q.1 = .ok q.2)) = true := rdc_all _ 0 _ rfl (by decide +kernel)
def tb_X9_findNearest_2 : List (Nat × Instr × Nat) := [(145, .iinc 3 1, 3), (148, .goto (-140), 3), (151, .return_, 1)]
theorem ok_X9_findNearest_2 : (tb_X9_findNearest_2.all fun q => decide (decode cX9_findNearest q.1 = .ok q.2)) = true := rdc_all _ 0 _ rfl (by decide +kernel)
def tb_X9_nearTold_0 : List (Nat × Instr × Nat) := [(0, .iload_n 1, 1), (1, .ifCond .ne 10, 3), (4, .aload_n 0, 1), (5, .getfield 260, 3), (8, .goto 19, 3), (11, .iload_n 1, 1), (12, .iconst 1, 1), (13, .if_icmp .ne 10, 3), (16, .aload_n 0, 1), (17, .getfield 263, 3), (20, .goto 7, 3), (23, .aload_n 0, 1), (24, .getfield 266, 3), (27, .ireturn, 1)]
theorem ok_X9_nearTold_0 : (tb_X9_nearTold_0.all fun q => decide (decode cX9_nearTold q.1 = .ok q.2)) = true := rdc_all _ 0 _ rfl (by decide +kernel)
def tb_X9_nearest_0 : List (Nat × Instr × Nat) := [(0, .iload_n 1, 1), (1, .i2l, 1), (2, .lconst 0, 1), (3, .ldc2_w 189, 3), (6, .invokestatic 97, 3), (9, .ifCond .ne 5, 3), (12, .iconst (-1), 1), (13, .ireturn, 1), (14, .aload_n 0, 1), (15, .getfield 86, 3), (18, .ifCond .ne 6, 3), (21, .bipush (-2), 2), (23, .ireturn, 1), (24, .aload_n 0, 1), (25, .aload_n 0, 1), (26, .getfield 80, 3), (29, .aload_n 0, 1), (30, .getfield 83, 3), (33, .lxor, 1), (34, .invokevirtual 269, 3), (37, .aload_n 0, 1), (38, .iload_n 1, 1), (39, .invokevirtual 273, 3), (42, .ireturn, 1)]
theorem ok_X9_nearest_0 : (tb_X9_nearest_0.all fun q => decide (decode cX9_nearest q.1 = .ok q.2)) = true := rdc_all _ 0 _ rfl (by decide +kernel)
def tb_X9_lightest_0 : List (Nat × Instr × Nat) := [(0, .iload_n 1, 1), (1, .i2l, 1), (2, .lconst 0, 1), (3, .ldc2_w 189, 3), (6, .invokestatic 97, 3), (9, .ifCond .ne 5, 3), (12, .iconst (-1), 1), (13, .ireturn, 1), (14, .aload_n 0, 1), (15, .aload_n 0, 1), (16, .getfield 80, 3), (19, .invokevirtual 269, 3), (22, .aload_n 0, 1), (23, .iload_n 1, 1), (24, .invokevirtual 273, 3), (27, .ireturn, 1)]
theorem ok_X9_lightest_0 : (tb_X9_lightest_0.all fun q => decide (decode cX9_lightest q.1 = .ok q.2)) = true := rdc_all _ 0 _ rfl (by decide +kernel)
def tb_X9_mostOf_0 : List (Nat × Instr × Nat) := [(0, .bipush (-4), 2), (2, .istore 4, 2), (4, .iload_n 3, 1), (5, .ifCond .ne 10, 3), (8, .aload_n 0, 1), (9, .getfield 77, 3), (12, .goto 7, 3), (15, .aload_n 0, 1), (16, .getfield 74, 3), (19, .iconst 2, 1), (20, .idiv, 1), (21, .istore 5, 2), (23, .iconst 0, 1), (24, .istore 6, 2), (26, .iload 6, 2), (28, .iload_n 3, 1), (29, .ifCond .ne 10, 3), (32, .aload_n 0, 1), (33, .getfield 74, 3), (36, .goto 7, 3), (39, .aload_n 0, 1), (40, .getfield 77, 3), (43, .if_icmp .ge 55, 3), (46, .lload_n 1, 1), (47, .aload_n 0, 1), (48, .iload_n 3, 1), (49, .iload 6, 2), (51, .invokevirtual 217, 3), (54, .land, 1), (55, .invokestatic 220, 3), (58, .istore 7, 2), (60, .iload 7, 2), (62, .iload 5, 2), (64, .if_icmp .le 8, 3), (67, .iload 6, 2), (69, .goto 5, 3), (72, .iload 4, 2), (74, .istore 4, 2), (76, .iload 7, 2), (78, .iload 5, 2)]
theorem ok_X9_mostOf_0 : (tb_X9_mostOf_0.all fun q => decide (decode cX9_mostOf q.1 = .ok q.2)) = true := rdc_all _ 0 _ rfl (by decide +kernel)
def tb_X9_mostOf_1 : List (Nat × Instr × Nat) := [(80, .if_icmp .le 8, 3), (83, .iload 7, 2), (85, .goto 5, 3), (88, .iload 5, 2), (90, .istore 5, 2), (92, .iinc 6 1, 3), (95, .goto (-69), 3), (98, .iload 4, 2), (100, .ireturn, 1)]
theorem ok_X9_mostOf_1 : (tb_X9_mostOf_1.all fun q => decide (decode cX9_mostOf q.1 = .ok q.2)) = true := rdc_all _ 0 _ rfl (by decide +kernel)
def tb_X9_blind_0 : List (Nat × Instr × Nat) := [(0, .iload_n 1, 1), (1, .i2l, 1), (2, .lconst 0, 1), (3, .lconst 1, 1), (4, .invokestatic 97, 3), (7, .ifCond .ne 5, 3), (10, .iconst (-1), 1), (11, .ireturn, 1), (12, .aload_n 0, 1), (13, .getfield 86, 3), (16, .ifCond .ne 6, 3), (19, .bipush (-2), 2), (21, .ireturn, 1), (22, .aload_n 0, 1), (23, .getfield 80, 3), (26, .aload_n 0, 1), (27, .getfield 83, 3), (30, .lxor, 1), (31, .lstore_n 2, 1), (32, .iconst 0, 1), (33, .istore 4, 2), (35, .iload 4, 2), (37, .bipush 60, 2), (39, .if_icmp .ge 73, 3), (42, .lload_n 2, 1), (43, .lconst 0, 1), (44, .lcmp, 1), (45, .ifCond .eq 67, 3), (48, .aload_n 0, 1), (49, .lload_n 2, 1), (50, .iconst 0, 1), (51, .invokevirtual 276, 3), (54, .istore 5, 2), (56, .aload_n 0, 1), (57, .lload_n 2, 1), (58, .iconst 1, 1), (59, .invokevirtual 276, 3), (62, .istore 6, 2), (64, .lload_n 2, 1), (65, .iload 5, 2)]
theorem ok_X9_blind_0 : (tb_X9_blind_0.all fun q => decide (decode cX9_blind q.1 = .ok q.2)) = true := rdc_all _ 0 _ rfl (by decide +kernel)
def tb_X9_blind_1 : List (Nat × Instr × Nat) := [(67, .bipush (-4), 2), (69, .if_icmp .ne 7, 3), (72, .lconst 0, 1), (73, .goto 10, 3), (76, .aload_n 0, 1), (77, .iconst 0, 1), (78, .iload 5, 2), (80, .invokevirtual 217, 3), (83, .lxor, 1), (84, .lstore_n 2, 1), (85, .lload_n 2, 1), (86, .iload 6, 2), (88, .bipush (-4), 2), (90, .if_icmp .ne 7, 3), (93, .lconst 0, 1), (94, .goto 10, 3), (97, .aload_n 0, 1), (98, .iconst 1, 1), (99, .iload 6, 2), (101, .invokevirtual 217, 3), (104, .lxor, 1), (105, .lstore_n 2, 1), (106, .iinc 4 1, 3), (109, .goto (-74), 3), (112, .iload_n 1, 1), (113, .iconst 1, 1), (114, .if_icmp .ne 10, 3), (117, .lload_n 2, 1), (118, .invokestatic 220, 3), (121, .goto 16, 3), (124, .lload_n 2, 1), (125, .lconst 0, 1), (126, .lcmp, 1), (127, .ifCond .ne 8, 3), (130, .iload 4, 2), (132, .goto 5, 3), (135, .bipush (-4), 2), (137, .ireturn, 1)]
theorem ok_X9_blind_1 : (tb_X9_blind_1.all fun q => decide (decode cX9_blind q.1 = .ok q.2)) = true := rdc_all _ 0 _ rfl (by decide +kernel)
def tb_X9_isBefore_0 : List (Nat × Instr × Nat) := [(0, .iload_n 1, 1), (1, .iload 5, 2), (3, .if_icmp .eq 17, 3), (6, .iload_n 1, 1), (7, .iload 5, 2), (9, .if_icmp .ge 7, 3), (12, .iconst 1, 1), (13, .goto 59, 3), (16, .iconst 0, 1), (17, .goto 55, 3), (20, .iload_n 2, 1), (21, .iload 6, 2), (23, .if_icmp .eq 17, 3), (26, .iload_n 2, 1), (27, .iload 6, 2), (29, .if_icmp .ge 7, 3), (32, .iconst 1, 1), (33, .goto 39, 3), (36, .iconst 0, 1), (37, .goto 35, 3), (40, .iload_n 3, 1), (41, .iload 7, 2), (43, .if_icmp .eq 17, 3), (46, .iload_n 3, 1), (47, .iload 7, 2), (49, .if_icmp .ge 7, 3), (52, .iconst 1, 1), (53, .goto 19, 3), (56, .iconst 0, 1), (57, .goto 15, 3), (60, .iload 4, 2), (62, .iload 8, 2), (64, .if_icmp .ge 7, 3), (67, .iconst 1, 1), (68, .goto 4, 3), (71, .iconst 0, 1), (72, .ireturn, 1)]
theorem ok_X9_isBefore_0 : (tb_X9_isBefore_0.all fun q => decide (decode cX9_isBefore q.1 = .ok q.2)) = true := rdc_all _ 0 _ rfl (by decide +kernel)
def tb_X9_slanted_0 : List (Nat × Instr × Nat) := [(0, .iload_n 1, 1), (1, .i2l, 1), (2, .lconst 0, 1), (3, .ldc2_w 251, 3), (6, .invokestatic 97, 3), (9, .ifCond .ne 5, 3), (12, .iconst (-1), 1), (13, .ireturn, 1), (14, .aload_n 0, 1), (15, .getfield 86, 3), (18, .ifCond .eq 17, 3), (21, .aload_n 0, 1), (22, .getfield 74, 3), (25, .aload_n 0, 1), (26, .getfield 77, 3), (29, .iadd, 1), (30, .bipush 10, 2), (32, .if_icmp .le 6, 3), (35, .bipush (-2), 2), (37, .ireturn, 1), (38, .bipush (-4), 2), (40, .istore_n 2, 1), (41, .iconst 0, 1), (42, .istore_n 3, 1), (43, .iconst 0, 1), (44, .istore 4, 2), (46, .iconst 0, 1), (47, .istore 5, 2), (49, .iconst 0, 1), (50, .istore 6, 2), (52, .iload 6, 2), (54, .iconst 1, 1), (55, .aload_n 0, 1), (56, .getfield 74, 3), (59, .aload_n 0, 1), (60, .getfield 77, 3), (63, .iadd, 1), (64, .iconst 1, 1), (65, .isub, 1), (66, .ishl, 1)]
theorem ok_X9_slanted_0 : (tb_X9_slanted_0.all fun q => decide (decode cX9_slanted q.1 = .ok q.2)) = true := rdc_all _ 0 _ rfl (by decide +kernel)
def tb_X9_slanted_1 : List (Nat × Instr × Nat) := [(67, .if_icmp .ge 258, 3), (70, .aload_n 0, 1), (71, .getfield 80, 3), (74, .aload_n 0, 1), (75, .getfield 83, 3), (78, .lxor, 1), (79, .lstore 7, 2), (81, .iconst 0, 1), (82, .istore 9, 2), (84, .iload 9, 2), (86, .aload_n 0, 1), (87, .getfield 74, 3), (90, .aload_n 0, 1), (91, .getfield 77, 3), (94, .iadd, 1), (95, .iconst 1, 1), (96, .isub, 1), (97, .if_icmp .ge 36, 3), (100, .lload 7, 2), (102, .iload 6, 2), (104, .iload 9, 2), (106, .ishr, 1), (107, .iconst 1, 1), (108, .iand, 1), (109, .iconst 1, 1), (110, .if_icmp .ne 13, 3), (113, .aload_n 0, 1), (114, .iconst 2, 1), (115, .iload 9, 2), (117, .invokevirtual 217, 3), (120, .goto 4, 3), (123, .lconst 0, 1), (124, .lxor, 1), (125, .lstore 7, 2), (127, .iinc 9 1, 3), (130, .goto (-46), 3), (133, .aload_n 0, 1), (134, .lload 7, 2), (136, .invokevirtual 253, 3), (139, .ifCond .eq 180, 3)]
theorem ok_X9_slanted_1 : (tb_X9_slanted_1.all fun q => decide (decode cX9_slanted q.1 = .ok q.2)) = true := rdc_all _ 0 _ rfl (by decide +kernel)
def tb_X9_slanted_2 : List (Nat × Instr × Nat) := [(142, .iconst 0, 1), (143, .istore 9, 2), (145, .iload 9, 2), (147, .iconst 2, 1), (148, .if_icmp .ge 171, 3), (151, .iload 9, 2), (153, .ifCond .ne 10, 3), (156, .aload_n 0, 1), (157, .getfield 245, 3), (160, .goto 16, 3), (163, .aload_n 0, 1), (164, .getfield 245, 3), (167, .iconst 1, 1), (168, .aload_n 0, 1), (169, .getfield 74, 3), (172, .ishl, 1), (173, .iconst 1, 1), (174, .isub, 1), (175, .ixor, 1), (176, .istore 10, 2), (178, .iload 9, 2), (180, .ifCond .ne 10, 3), (183, .aload_n 0, 1), (184, .getfield 248, 3), (187, .goto 16, 3), (190, .aload_n 0, 1), (191, .getfield 248, 3), (194, .iconst 1, 1), (195, .aload_n 0, 1), (196, .getfield 77, 3), (199, .ishl, 1), (200, .iconst 1, 1), (201, .isub, 1), (202, .ixor, 1), (203, .istore 11, 2), (205, .iload 10, 2), (207, .i2l, 1), (208, .invokestatic 220, 3), (211, .iload 11, 2), (213, .i2l, 1)]
theorem ok_X9_slanted_2 : (tb_X9_slanted_2.all fun q => decide (decode cX9_slanted q.1 = .ok q.2)) = true := rdc_all _ 0 _ rfl (by decide +kernel)
def tb_X9_slanted_3 : List (Nat × Instr × Nat) := [(214, .invokestatic 220, 3), (217, .iadd, 1), (218, .iload 6, 2), (220, .i2l, 1), (221, .invokestatic 220, 3), (224, .iadd, 1), (225, .istore 12, 2), (227, .iload_n 2, 1), (228, .bipush (-4), 2), (230, .if_icmp .eq 24, 3), (233, .aload_n 0, 1), (234, .iload 12, 2), (236, .iload 10, 2), (238, .iload 11, 2), (240, .iload 6, 2), (242, .iload_n 2, 1), (243, .iload_n 3, 1), (244, .iload 4, 2), (246, .iload 5, 2), (248, .invokevirtual 280, 3), (251, .ifCond .eq 7, 3), (254, .iconst 1, 1), (255, .goto 4, 3), (258, .iconst 0, 1), (259, .istore 13, 2), (261, .iload 13, 2), (263, .ifCond .eq 8, 3), (266, .iload 12, 2), (268, .goto 4, 3), (271, .iload_n 2, 1), (272, .istore_n 2, 1), (273, .iload 13, 2), (275, .ifCond .eq 8, 3), (278, .iload 10, 2), (280, .goto 4, 3), (283, .iload_n 3, 1), (284, .istore_n 3, 1), (285, .iload 13, 2), (287, .ifCond .eq 8, 3), (290, .iload 11, 2)]
theorem ok_X9_slanted_3 : (tb_X9_slanted_3.all fun q => decide (decode cX9_slanted q.1 = .ok q.2)) = true := rdc_all _ 0 _ rfl (by decide +kernel)
def tb_X9_slanted_4 : List (Nat × Instr × Nat) := [(292, .goto 5, 3), (295, .iload 4, 2), (297, .istore 4, 2), (299, .iload 13, 2), (301, .ifCond .eq 8, 3), (304, .iload 6, 2), (306, .goto 5, 3), (309, .iload 5, 2), (311, .istore 5, 2), (313, .iinc 9 1, 3), (316, .goto (-171), 3), (319, .iinc 6 1, 3), (322, .goto (-270), 3), (325, .iload_n 2, 1), (326, .bipush (-4), 2), (328, .if_icmp .ne 8, 3), (331, .bipush (-4), 2), (333, .goto 32, 3), (336, .iload_n 1, 1), (337, .ifCond .ne 7, 3), (340, .iload_n 2, 1), (341, .goto 24, 3), (344, .iload_n 1, 1), (345, .iconst 1, 1), (346, .if_icmp .ne 7, 3), (349, .iload_n 3, 1), (350, .goto 15, 3), (353, .iload_n 1, 1), (354, .iconst 2, 1), (355, .if_icmp .ne 8, 3), (358, .iload 4, 2), (360, .goto 5, 3), (363, .iload 5, 2), (365, .ireturn, 1)]
theorem ok_X9_slanted_4 : (tb_X9_slanted_4.all fun q => decide (decode cX9_slanted q.1 = .ok q.2)) = true := rdc_all _ 0 _ rfl (by decide +kernel)
def tb_X9_isNew_0 : List (Nat × Instr × Nat) := [(0, .lload_n 1, 1), (1, .lstore_n 3, 1), (2, .bipush 63, 2), (4, .istore 5, 2), (6, .iload 5, 2), (8, .ifCond .lt 52, 3), (11, .lload_n 3, 1), (12, .iload 5, 2), (14, .lshr, 1), (15, .lconst 1, 1), (16, .land, 1), (17, .lconst 1, 1), (18, .lcmp, 1), (19, .ifCond .ne 35, 3), (22, .aload_n 0, 1), (23, .getfield 29, 3), (26, .iload 5, 2), (28, .laload, 1), (29, .lconst 0, 1), (30, .lcmp, 1), (31, .ifCond .ne 13, 3), (34, .aload_n 0, 1), (35, .getfield 29, 3), (38, .iload 5, 2), (40, .lload_n 3, 1), (41, .lastore, 1), (42, .iconst 1, 1), (43, .ireturn, 1), (44, .lload_n 3, 1), (45, .aload_n 0, 1), (46, .getfield 29, 3), (49, .iload 5, 2), (51, .laload, 1), (52, .lxor, 1), (53, .lstore_n 3, 1), (54, .iinc 5 (-1), 3), (57, .goto (-51), 3), (60, .iconst 0, 1), (61, .ireturn, 1)]
theorem ok_X9_isNew_0 : (tb_X9_isNew_0.all fun q => decide (decode cX9_isNew q.1 = .ok q.2)) = true := rdc_all _ 0 _ rfl (by decide +kernel)
def tb_X9_power_0 : List (Nat × Instr × Nat) := [(0, .iload_n 1, 1), (1, .i2l, 1), (2, .lconst 0, 1), (3, .lconst 1, 1), (4, .invokestatic 97, 3), (7, .ifCond .ne 5, 3), (10, .iconst (-1), 1), (11, .ireturn, 1), (12, .iconst 0, 1), (13, .istore_n 2, 1), (14, .iload_n 2, 1), (15, .bipush 64, 2), (17, .if_icmp .ge 16, 3), (20, .aload_n 0, 1), (21, .getfield 29, 3), (24, .iload_n 2, 1), (25, .lconst 0, 1), (26, .lastore, 1), (27, .iinc 2 1, 3), (30, .goto (-16), 3), (33, .iconst 0, 1), (34, .istore_n 2, 1), (35, .iconst 0, 1), (36, .istore_n 3, 1), (37, .iload_n 3, 1), (38, .iload_n 1, 1), (39, .iconst 1, 1), (40, .iadd, 1), (41, .if_icmp .gt 45, 3), (44, .iconst 0, 1), (45, .istore 4, 2), (47, .aload_n 0, 1), (48, .iload_n 3, 1), (49, .iload 4, 2), (51, .invokevirtual 214, 3), (54, .ifCond .eq 26, 3), (57, .iload_n 2, 1), (58, .aload_n 0, 1), (59, .aload_n 0, 1), (60, .iload_n 3, 1)]
theorem ok_X9_power_0 : (tb_X9_power_0.all fun q => decide (decode cX9_power q.1 = .ok q.2)) = true := rdc_all _ 0 _ rfl (by decide +kernel)
def tb_X9_power_1 : List (Nat × Instr × Nat) := [(61, .iload 4, 2), (63, .invokevirtual 217, 3), (66, .invokevirtual 284, 3), (69, .invokestatic 200, 3), (72, .iadd, 1), (73, .istore_n 2, 1), (74, .iinc 4 1, 3), (77, .goto (-30), 3), (80, .iinc 3 1, 3), (83, .goto (-46), 3), (86, .iload_n 2, 1), (87, .ireturn, 1)]
theorem ok_X9_power_1 : (tb_X9_power_1.all fun q => decide (decode cX9_power q.1 = .ok q.2)) = true := rdc_all _ 0 _ rfl (by decide +kernel)
def tb_X9_isMove_0 : List (Nat × Instr × Nat) := [(0, .iload_n 2, 1), (1, .bipush 8, 2), (3, .if_icmp .eq 22, 3), (6, .iload_n 2, 1), (7, .iload_n 1, 1), (8, .ifCond .eq 10, 3), (11, .aload_n 0, 1), (12, .getfield 74, 3), (15, .goto 7, 3), (18, .aload_n 0, 1), (19, .getfield 77, 3), (22, .if_icmp .ge 7, 3), (25, .iconst 1, 1), (26, .goto 4, 3), (29, .iconst 0, 1), (30, .ireturn, 1)]
theorem ok_X9_isMove_0 : (tb_X9_isMove_0.all fun q => decide (decode cX9_isMove q.1 = .ok q.2)) = true := rdc_all _ 0 _ rfl (by decide +kernel)
def tb_X9_worthOf_0 : List (Nat × Instr × Nat) := [(0, .aload_n 0, 1), (1, .getfield 80, 3), (4, .lstore 4, 2), (6, .iload_n 1, 1), (7, .istore 6, 2), (9, .iconst 1, 1), (10, .istore 7, 2), (12, .iload_n 2, 1), (13, .iconst 1, 1), (14, .isub, 1), (15, .istore 8, 2), (17, .iload 8, 2), (19, .ifCond .lt 106, 3), (22, .iload 8, 2), (24, .iconst 2, 1), (25, .irem, 1), (26, .ifCond .ne 7, 3), (29, .iconst 1, 1), (30, .goto 4, 3), (33, .iconst 0, 1), (34, .iload_n 3, 1), (35, .if_icmp .ne 7, 3), (38, .iconst 1, 1), (39, .goto 4, 3), (42, .iconst 0, 1), (43, .istore 9, 2), (45, .iload 6, 2), (47, .bipush 9, 2), (49, .irem, 1), (50, .istore 10, 2), (52, .iload 6, 2), (54, .bipush 9, 2), (56, .idiv, 1), (57, .istore 6, 2), (59, .iload 7, 2), (61, .ifCond .eq 18, 3), (64, .aload_n 0, 1), (65, .iload 9, 2), (67, .iload 10, 2), (69, .invokevirtual 287, 3)]
theorem ok_X9_worthOf_0 : (tb_X9_worthOf_0.all fun q => decide (decode cX9_worthOf q.1 = .ok q.2)) = true := rdc_all _ 0 _ rfl (by decide +kernel)
def tb_X9_worthOf_1 : List (Nat × Instr × Nat) := [(72, .ifCond .eq 7, 3), (75, .iconst 1, 1), (76, .goto 4, 3), (79, .iconst 0, 1), (80, .istore 7, 2), (82, .lload 4, 2), (84, .iload 7, 2), (86, .ifCond .eq 29, 3), (89, .iload 10, 2), (91, .bipush 8, 2), (93, .if_icmp .ge 22, 3), (96, .aload_n 0, 1), (97, .iload 9, 2), (99, .ifCond .eq 7, 3), (102, .iconst 0, 1), (103, .goto 4, 3), (106, .iconst 1, 1), (107, .iload 10, 2), (109, .invokevirtual 217, 3), (112, .goto 4, 3), (115, .lconst 0, 1), (116, .lxor, 1), (117, .lstore 4, 2), (119, .iinc 8 (-1), 3), (122, .goto (-105), 3), (125, .iload 7, 2), (127, .ifCond .eq 11, 3), (130, .lload 4, 2), (132, .invokestatic 220, 3), (135, .goto 5, 3), (138, .bipush (-4), 2), (140, .ireturn, 1)]
theorem ok_X9_worthOf_1 : (tb_X9_worthOf_1.all fun q => decide (decode cX9_worthOf q.1 = .ok q.2)) = true := rdc_all _ 0 _ rfl (by decide +kernel)
def tb_X9_best_0 : List (Nat × Instr × Nat) := [(0, .bipush (-4), 2), (2, .istore_n 3, 1), (3, .iconst 0, 1), (4, .istore 4, 2), (6, .iload 4, 2), (8, .bipush 9, 2), (10, .if_icmp .ge 85, 3), (13, .aload_n 0, 1), (14, .getfield 32, 3), (17, .iload_n 1, 1), (18, .iload 4, 2), (20, .iadd, 1), (21, .iaload, 1), (22, .istore 5, 2), (24, .iload 5, 2), (26, .bipush (-4), 2), (28, .if_icmp .eq 46, 3), (31, .iload_n 3, 1), (32, .bipush (-4), 2), (34, .if_icmp .eq 36, 3), (37, .iload_n 2, 1), (38, .ifCond .eq 19, 3), (41, .iload 5, 2), (43, .aload_n 0, 1), (44, .getfield 32, 3), (47, .iload_n 1, 1), (48, .iload_n 3, 1), (49, .iadd, 1), (50, .iaload, 1), (51, .if_icmp .le 23, 3), (54, .goto 16, 3), (57, .iload 5, 2), (59, .aload_n 0, 1), (60, .getfield 32, 3), (63, .iload_n 1, 1), (64, .iload_n 3, 1), (65, .iadd, 1), (66, .iaload, 1), (67, .if_icmp .ge 7, 3), (70, .iconst 1, 1)]
theorem ok_X9_best_0 : (tb_X9_best_0.all fun q => decide (decode cX9_best q.1 = .ok q.2)) = true := rdc_all _ 0 _ rfl (by decide +kernel)
def tb_X9_best_1 : List (Nat × Instr × Nat) := [(71, .goto 4, 3), (74, .iconst 0, 1), (75, .istore 6, 2), (77, .iload 6, 2), (79, .ifCond .eq 8, 3), (82, .iload 4, 2), (84, .goto 4, 3), (87, .iload_n 3, 1), (88, .istore_n 3, 1), (89, .iinc 4 1, 3), (92, .goto (-86), 3), (95, .iload_n 3, 1), (96, .ireturn, 1)]
theorem ok_X9_best_1 : (tb_X9_best_1.all fun q => decide (decode cX9_best q.1 = .ok q.2)) = true := rdc_all _ 0 _ rfl (by decide +kernel)
def tb_X9_duel_0 : List (Nat × Instr × Nat) := [(0, .iload_n 1, 1), (1, .i2l, 1), (2, .lconst 1, 1), (3, .ldc2_w 291, 3), (6, .invokestatic 97, 3), (9, .ifCond .eq 13, 3), (12, .iload_n 3, 1), (13, .i2l, 1), (14, .lconst 0, 1), (15, .lconst 1, 1), (16, .invokestatic 97, 3), (19, .ifCond .ne 5, 3), (22, .iconst (-1), 1), (23, .ireturn, 1), (24, .iconst 1, 1), (25, .istore 4, 2), (27, .iconst 0, 1), (28, .istore 5, 2), (30, .iload 5, 2), (32, .iload_n 1, 1), (33, .if_icmp .ge 16, 3), (36, .iload 4, 2), (38, .bipush 9, 2), (40, .imul, 1), (41, .istore 4, 2), (43, .iinc 5 1, 3), (46, .goto (-16), 3), (49, .iconst 0, 1), (50, .istore 5, 2), (52, .iload 5, 2), (54, .iload 4, 2), (56, .if_icmp .ge 24, 3), (59, .aload_n 0, 1), (60, .getfield 32, 3), (63, .iload 5, 2), (65, .aload_n 0, 1), (66, .iload 5, 2), (68, .iload_n 1, 1), (69, .iload_n 2, 1), (70, .invokevirtual 293, 3)]
theorem ok_X9_duel_0 : (tb_X9_duel_0.all fun q => decide (decode cX9_duel q.1 = .ok q.2)) = true := rdc_all _ 0 _ rfl (by decide +kernel)
def tb_X9_duel_1 : List (Nat × Instr × Nat) := [(73, .iastore, 1), (74, .iinc 5 1, 3), (77, .goto (-25), 3), (80, .iload_n 1, 1), (81, .iconst 1, 1), (82, .isub, 1), (83, .istore 5, 2), (85, .iload 5, 2), (87, .ifCond .lt 102, 3), (90, .iload 4, 2), (92, .bipush 9, 2), (94, .idiv, 1), (95, .istore 4, 2), (97, .iconst 0, 1), (98, .istore 6, 2), (100, .iload 6, 2), (102, .iload 4, 2), (104, .if_icmp .ge 79, 3), (107, .aload_n 0, 1), (108, .bipush 9, 2), (110, .iload 6, 2), (112, .imul, 1), (113, .iload 5, 2), (115, .iconst 2, 1), (116, .irem, 1), (117, .ifCond .ne 7, 3), (120, .iconst 1, 1), (121, .goto 4, 3), (124, .iconst 0, 1), (125, .iload_n 2, 1), (126, .if_icmp .ne 7, 3), (129, .iconst 1, 1), (130, .goto 4, 3), (133, .iconst 0, 1), (134, .invokevirtual 297, 3), (137, .istore 7, 2), (139, .aload_n 0, 1), (140, .iload 7, 2), (142, .putfield 301, 3), (145, .aload_n 0, 1)]
theorem ok_X9_duel_1 : (tb_X9_duel_1.all fun q => decide (decode cX9_duel q.1 = .ok q.2)) = true := rdc_all _ 0 _ rfl (by decide +kernel)
def tb_X9_duel_2 : List (Nat × Instr × Nat) := [(146, .getfield 32, 3), (149, .iload 6, 2), (151, .iload 7, 2), (153, .bipush (-4), 2), (155, .if_icmp .ne 8, 3), (158, .bipush (-4), 2), (160, .goto 16, 3), (163, .aload_n 0, 1), (164, .getfield 32, 3), (167, .bipush 9, 2), (169, .iload 6, 2), (171, .imul, 1), (172, .iload 7, 2), (174, .iadd, 1), (175, .iaload, 1), (176, .iastore, 1), (177, .iinc 6 1, 3), (180, .goto (-80), 3), (183, .iinc 5 (-1), 3), (186, .goto (-101), 3), (189, .iload_n 3, 1), (190, .ifCond .ne 12, 3), (193, .aload_n 0, 1), (194, .getfield 32, 3), (197, .iconst 0, 1), (198, .iaload, 1), (199, .goto 7, 3), (202, .aload_n 0, 1), (203, .getfield 301, 3), (206, .ireturn, 1)]
theorem ok_X9_duel_2 : (tb_X9_duel_2.all fun q => decide (decode cX9_duel q.1 = .ok q.2)) = true := rdc_all _ 0 _ rfl (by decide +kernel)
def tb_X9_turned_0 : List (Nat × Instr × Nat) := [(0, .iload_n 1, 1), (1, .invokestatic 235, 3), (4, .ifCond .eq 15, 3), (7, .iload_n 2, 1), (8, .i2l, 1), (9, .lconst 0, 1), (10, .ldc2_w 189, 3), (13, .invokestatic 97, 3), (16, .ifCond .ne 5, 3), (19, .iconst (-1), 1), (20, .ireturn, 1), (21, .aload_n 0, 1), (22, .iload_n 1, 1), (23, .invokevirtual 239, 3), (26, .ifCond .eq 11, 3), (29, .aload_n 0, 1), (30, .iload_n 1, 1), (31, .invokevirtual 242, 3), (34, .ifCond .ne 6, 3), (37, .bipush (-2), 2), (39, .ireturn, 1), (40, .aload_n 0, 1), (41, .aload_n 0, 1), (42, .getfield 80, 3), (45, .aload_n 0, 1), (46, .getfield 13, 3), (49, .iload_n 1, 1), (50, .laload, 1), (51, .lxor, 1), (52, .invokevirtual 253, 3), (55, .ifCond .eq 11, 3), (58, .aload_n 0, 1), (59, .iload_n 2, 1), (60, .invokevirtual 257, 3), (63, .goto 5, 3), (66, .bipush (-4), 2), (68, .ireturn, 1)]
theorem ok_X9_turned_0 : (tb_X9_turned_0.all fun q => decide (decode cX9_turned q.1 = .ok q.2)) = true := rdc_all _ 0 _ rfl (by decide +kernel)
def tb_X9_spoilt_0 : List (Nat × Instr × Nat) := [(0, .iload_n 1, 1), (1, .i2l, 1), (2, .lconst 0, 1), (3, .lconst 1, 1), (4, .invokestatic 97, 3), (7, .ifCond .ne 5, 3), (10, .iconst (-1), 1), (11, .ireturn, 1), (12, .aload_n 0, 1), (13, .getfield 86, 3), (16, .ifCond .ne 6, 3), (19, .bipush (-2), 2), (21, .ireturn, 1), (22, .iconst 0, 1), (23, .istore_n 2, 1), (24, .bipush (-4), 2), (26, .istore_n 3, 1), (27, .iconst 0, 1), (28, .istore 4, 2), (30, .iload 4, 2), (32, .bipush 64, 2), (34, .if_icmp .ge 63, 3), (37, .aload_n 0, 1), (38, .iload 4, 2), (40, .bipush 8, 2), (42, .idiv, 1), (43, .iload 4, 2), (45, .bipush 8, 2), (47, .irem, 1), (48, .invokevirtual 206, 3), (51, .ifCond .eq 40, 3), (54, .aload_n 0, 1), (55, .aload_n 0, 1), (56, .getfield 80, 3), (59, .aload_n 0, 1), (60, .getfield 83, 3), (63, .lxor, 1), (64, .lconst 1, 1), (65, .iload 4, 2), (67, .lshl, 1)]
theorem ok_X9_spoilt_0 : (tb_X9_spoilt_0.all fun q => decide (decode cX9_spoilt q.1 = .ok q.2)) = true := rdc_all _ 0 _ rfl (by decide +kernel)
def tb_X9_spoilt_1 : List (Nat × Instr × Nat) := [(68, .lxor, 1), (69, .invokevirtual 231, 3), (72, .lconst 0, 1), (73, .lcmp, 1), (74, .ifCond .ne 17, 3), (77, .iload_n 2, 1), (78, .ifCond .ne 8, 3), (81, .iload 4, 2), (83, .goto 4, 3), (86, .iload_n 3, 1), (87, .istore_n 3, 1), (88, .iinc 2 1, 3), (91, .iinc 4 1, 3), (94, .goto (-64), 3), (97, .iload_n 1, 1), (98, .ifCond .ne 7, 3), (101, .iload_n 2, 1), (102, .goto 4, 3), (105, .iload_n 3, 1), (106, .ireturn, 1)]
theorem ok_X9_spoilt_1 : (tb_X9_spoilt_1.all fun q => decide (decode cX9_spoilt q.1 = .ok q.2)) = true := rdc_all _ 0 _ rfl (by decide +kernel)
def tb_X9_both_0 : List (Nat × Instr × Nat) := [(0, .iload_n 1, 1), (1, .i2l, 1), (2, .lconst 0, 1), (3, .lconst 1, 1), (4, .invokestatic 97, 3), (7, .ifCond .ne 5, 3), (10, .iconst (-1), 1), (11, .ireturn, 1), (12, .aload_n 0, 1), (13, .getfield 86, 3), (16, .ifCond .ne 6, 3), (19, .bipush (-2), 2), (21, .ireturn, 1), (22, .iconst 0, 1), (23, .istore_n 2, 1), (24, .bipush (-4), 2), (26, .istore_n 3, 1), (27, .iconst 0, 1), (28, .istore 4, 2), (30, .iload 4, 2), (32, .bipush 64, 2), (34, .if_icmp .ge 122, 3), (37, .iload 4, 2), (39, .iconst 1, 1), (40, .iadd, 1), (41, .istore 5, 2), (43, .iload 5, 2), (45, .bipush 64, 2), (47, .if_icmp .ge 103, 3), (50, .aload_n 0, 1), (51, .iload 4, 2), (53, .bipush 8, 2), (55, .idiv, 1), (56, .iload 4, 2), (58, .bipush 8, 2), (60, .irem, 1), (61, .invokevirtual 206, 3), (64, .ifCond .eq 24, 3), (67, .aload_n 0, 1), (68, .iload 5, 2)]
theorem ok_X9_both_0 : (tb_X9_both_0.all fun q => decide (decode cX9_both q.1 = .ok q.2)) = true := rdc_all _ 0 _ rfl (by decide +kernel)
def tb_X9_both_1 : List (Nat × Instr × Nat) := [(70, .bipush 8, 2), (72, .idiv, 1), (73, .iload 5, 2), (75, .bipush 8, 2), (77, .irem, 1), (78, .invokevirtual 206, 3), (81, .ifCond .eq 7, 3), (84, .iconst 1, 1), (85, .goto 4, 3), (88, .iconst 0, 1), (89, .istore 6, 2), (91, .iload 6, 2), (93, .ifCond .eq 51, 3), (96, .aload_n 0, 1), (97, .aload_n 0, 1), (98, .getfield 80, 3), (101, .aload_n 0, 1), (102, .getfield 83, 3), (105, .lxor, 1), (106, .lconst 1, 1), (107, .iload 4, 2), (109, .lshl, 1), (110, .lxor, 1), (111, .lconst 1, 1), (112, .iload 5, 2), (114, .lshl, 1), (115, .lxor, 1), (116, .invokevirtual 231, 3), (119, .lconst 0, 1), (120, .lcmp, 1), (121, .ifCond .ne 23, 3), (124, .iload_n 2, 1), (125, .ifCond .ne 14, 3), (128, .bipush 64, 2), (130, .iload 4, 2), (132, .imul, 1), (133, .iload 5, 2), (135, .iadd, 1), (136, .goto 4, 3), (139, .iload_n 3, 1)]
theorem ok_X9_both_1 : (tb_X9_both_1.all fun q => decide (decode cX9_both q.1 = .ok q.2)) = true := rdc_all _ 0 _ rfl (by decide +kernel)
def tb_X9_both_2 : List (Nat × Instr × Nat) := [(140, .istore_n 3, 1), (141, .iinc 2 1, 3), (144, .iinc 5 1, 3), (147, .goto (-104), 3), (150, .iinc 4 1, 3), (153, .goto (-123), 3), (156, .iload_n 1, 1), (157, .ifCond .ne 7, 3), (160, .iload_n 2, 1), (161, .goto 4, 3), (164, .iload_n 3, 1), (165, .ireturn, 1)]
theorem ok_X9_both_2 : (tb_X9_both_2.all fun q => decide (decode cX9_both q.1 = .ok q.2)) = true := rdc_all _ 0 _ rfl (by decide +kernel)
def tb_X9_mirrored_0 : List (Nat × Instr × Nat) := [(0, .lconst 0, 1), (1, .lstore 4, 2), (3, .iconst 0, 1), (4, .istore 6, 2), (6, .iload 6, 2), (8, .iload_n 2, 1), (9, .if_icmp .ge 56, 3), (12, .iconst 0, 1), (13, .istore 7, 2), (15, .iload 7, 2), (17, .iload_n 3, 1), (18, .if_icmp .ge 41, 3), (21, .lload 4, 2), (23, .lload_n 0, 1), (24, .iload 6, 2), (26, .iload 7, 2), (28, .invokestatic 210, 3), (31, .iconst 1, 1), (32, .if_icmp .ne 17, 3), (35, .iload 6, 2), (37, .iload_n 3, 1), (38, .iconst 1, 1), (39, .isub, 1), (40, .iload 7, 2), (42, .isub, 1), (43, .invokestatic 155, 3), (46, .goto 4, 3), (49, .lconst 0, 1), (50, .lor, 1), (51, .lstore 4, 2), (53, .iinc 7 1, 3), (56, .goto (-41), 3), (59, .iinc 6 1, 3), (62, .goto (-56), 3), (65, .lload 4, 2), (67, .lreturn, 1)]
theorem ok_X9_mirrored_0 : (tb_X9_mirrored_0.all fun q => decide (decode cX9_mirrored q.1 = .ok q.2)) = true := rdc_all _ 0 _ rfl (by decide +kernel)
def tb_X9_quarter_0 : List (Nat × Instr × Nat) := [(0, .lconst 0, 1), (1, .lstore 4, 2), (3, .iconst 0, 1), (4, .istore 6, 2), (6, .iload 6, 2), (8, .iload_n 2, 1), (9, .if_icmp .ge 56, 3), (12, .iconst 0, 1), (13, .istore 7, 2), (15, .iload 7, 2), (17, .iload_n 3, 1), (18, .if_icmp .ge 41, 3), (21, .lload 4, 2), (23, .lload_n 0, 1), (24, .iload 6, 2), (26, .iload 7, 2), (28, .invokestatic 210, 3), (31, .iconst 1, 1), (32, .if_icmp .ne 17, 3), (35, .iload 7, 2), (37, .iload_n 2, 1), (38, .iconst 1, 1), (39, .isub, 1), (40, .iload 6, 2), (42, .isub, 1), (43, .invokestatic 155, 3), (46, .goto 4, 3), (49, .lconst 0, 1), (50, .lor, 1), (51, .lstore 4, 2), (53, .iinc 7 1, 3), (56, .goto (-41), 3), (59, .iinc 6 1, 3), (62, .goto (-56), 3), (65, .lload 4, 2), (67, .lreturn, 1)]
theorem ok_X9_quarter_0 : (tb_X9_quarter_0.all fun q => decide (decode cX9_quarter q.1 = .ok q.2)) = true := rdc_all _ 0 _ rfl (by decide +kernel)
def tb_X9_rotated_0 : List (Nat × Instr × Nat) := [(0, .iload 4, 2), (2, .iconst 3, 1), (3, .if_icmp .le 12, 3), (6, .lload_n 0, 1), (7, .iload_n 2, 1), (8, .iload_n 3, 1), (9, .invokestatic 304, 3), (12, .goto 4, 3), (15, .lload_n 0, 1), (16, .lstore 5, 2), (18, .iconst 0, 1), (19, .istore 7, 2), (21, .iload 7, 2), (23, .iload 4, 2), (25, .iconst 4, 1), (26, .irem, 1), (27, .if_icmp .ge 35, 3), (30, .iload 7, 2), (32, .iconst 2, 1), (33, .irem, 1), (34, .ifCond .ne 13, 3), (37, .lload 5, 2), (39, .iload_n 2, 1), (40, .iload_n 3, 1), (41, .invokestatic 307, 3), (44, .goto 10, 3), (47, .lload 5, 2), (49, .iload_n 3, 1), (50, .iload_n 2, 1), (51, .invokestatic 307, 3), (54, .lstore 5, 2), (56, .iinc 7 1, 3), (59, .goto (-38), 3), (62, .lload 5, 2), (64, .lreturn, 1)]
theorem ok_X9_rotated_0 : (tb_X9_rotated_0.all fun q => decide (decode cX9_rotated q.1 = .ok q.2)) = true := rdc_all _ 0 _ rfl (by decide +kernel)
def tb_X9_endsPattern_0 : List (Nat × Instr × Nat) := [(0, .aload_n 0, 1), (1, .iconst 0, 1), (2, .putfield 86, 3), (5, .aload_n 0, 1), (6, .iconst 0, 1), (7, .putfield 89, 3), (10, .return_, 1)]
theorem ok_X9_endsPattern_0 : (tb_X9_endsPattern_0.all fun q => decide (decode cX9_endsPattern q.1 = .ok q.2)) = true := rdc_all _ 0 _ rfl (by decide +kernel)
def tb_X9_rotate_0 : List (Nat × Instr × Nat) := [(0, .iload_n 1, 1), (1, .i2l, 1), (2, .lconst 0, 1), (3, .ldc2_w 168, 3), (6, .invokestatic 97, 3), (9, .ifCond .ne 5, 3), (12, .iconst (-1), 1), (13, .ireturn, 1), (14, .aload_n 0, 1), (15, .aload_n 0, 1), (16, .getfield 80, 3), (19, .aload_n 0, 1), (20, .getfield 74, 3), (23, .aload_n 0, 1), (24, .getfield 77, 3), (27, .iload_n 1, 1), (28, .invokestatic 310, 3), (31, .putfield 80, 3), (34, .aload_n 0, 1), (35, .aload_n 0, 1), (36, .getfield 83, 3), (39, .aload_n 0, 1), (40, .getfield 74, 3), (43, .aload_n 0, 1), (44, .getfield 77, 3), (47, .iload_n 1, 1), (48, .invokestatic 310, 3), (51, .putfield 83, 3), (54, .aload_n 0, 1), (55, .getfield 74, 3), (58, .istore_n 2, 1), (59, .aload_n 0, 1), (60, .iload_n 1, 1), (61, .iconst 2, 1), (62, .irem, 1), (63, .iconst 1, 1), (64, .if_icmp .ne 10, 3), (67, .aload_n 0, 1), (68, .getfield 77, 3), (71, .goto 7, 3)]
theorem ok_X9_rotate_0 : (tb_X9_rotate_0.all fun q => decide (decode cX9_rotate q.1 = .ok q.2)) = true := rdc_all _ 0 _ rfl (by decide +kernel)
def tb_X9_rotate_1 : List (Nat × Instr × Nat) := [(74, .aload_n 0, 1), (75, .getfield 74, 3), (78, .putfield 74, 3), (81, .aload_n 0, 1), (82, .iload_n 1, 1), (83, .iconst 2, 1), (84, .irem, 1), (85, .iconst 1, 1), (86, .if_icmp .ne 7, 3), (89, .iload_n 2, 1), (90, .goto 7, 3), (93, .aload_n 0, 1), (94, .getfield 77, 3), (97, .putfield 77, 3), (100, .aload_n 0, 1), (101, .iconst 0, 1), (102, .putfield 89, 3), (105, .aload_n 0, 1), (106, .getfield 74, 3), (109, .ireturn, 1)]
theorem ok_X9_rotate_1 : (tb_X9_rotate_1.all fun q => decide (decode cX9_rotate q.1 = .ok q.2)) = true := rdc_all _ 0 _ rfl (by decide +kernel)
def tb_X9_cut_0 : List (Nat × Instr × Nat) := [(0, .iload_n 1, 1), (1, .i2l, 1), (2, .lconst 0, 1), (3, .aload_n 0, 1), (4, .getfield 74, 3), (7, .iconst 1, 1), (8, .isub, 1), (9, .i2l, 1), (10, .invokestatic 97, 3), (13, .ifCond .eq 52, 3), (16, .iload_n 2, 1), (17, .i2l, 1), (18, .lconst 1, 1), (19, .aload_n 0, 1), (20, .getfield 74, 3), (23, .iload_n 1, 1), (24, .isub, 1), (25, .i2l, 1), (26, .invokestatic 97, 3), (29, .ifCond .eq 36, 3), (32, .iload_n 3, 1), (33, .i2l, 1), (34, .lconst 0, 1), (35, .aload_n 0, 1), (36, .getfield 77, 3), (39, .iconst 1, 1), (40, .isub, 1), (41, .i2l, 1), (42, .invokestatic 97, 3), (45, .ifCond .eq 20, 3), (48, .iload 4, 2), (50, .i2l, 1), (51, .lconst 1, 1), (52, .aload_n 0, 1), (53, .getfield 77, 3), (56, .iload_n 3, 1), (57, .isub, 1), (58, .i2l, 1), (59, .invokestatic 97, 3), (62, .ifCond .ne 5, 3)]
theorem ok_X9_cut_0 : (tb_X9_cut_0.all fun q => decide (decode cX9_cut q.1 = .ok q.2)) = true := rdc_all _ 0 _ rfl (by decide +kernel)
def tb_X9_cut_1 : List (Nat × Instr × Nat) := [(65, .iconst (-1), 1), (66, .ireturn, 1), (67, .lconst 0, 1), (68, .lstore 5, 2), (70, .iconst 0, 1), (71, .istore 7, 2), (73, .iload 7, 2), (75, .iload_n 2, 1), (76, .if_icmp .ge 60, 3), (79, .iconst 0, 1), (80, .istore 8, 2), (82, .iload 8, 2), (84, .iload 4, 2), (86, .if_icmp .ge 44, 3), (89, .lload 5, 2), (91, .aload_n 0, 1), (92, .getfield 80, 3), (95, .iload_n 1, 1), (96, .iload 7, 2), (98, .iadd, 1), (99, .iload_n 3, 1), (100, .iload 8, 2), (102, .iadd, 1), (103, .invokestatic 210, 3), (106, .iconst 1, 1), (107, .if_icmp .ne 13, 3), (110, .iload 7, 2), (112, .iload 8, 2), (114, .invokestatic 155, 3), (117, .goto 4, 3), (120, .lconst 0, 1), (121, .lor, 1), (122, .lstore 5, 2), (124, .iinc 8 1, 3), (127, .goto (-45), 3), (130, .iinc 7 1, 3), (133, .goto (-60), 3), (136, .aload_n 0, 1), (137, .lload 5, 2), (139, .putfield 80, 3)]
theorem ok_X9_cut_1 : (tb_X9_cut_1.all fun q => decide (decode cX9_cut q.1 = .ok q.2)) = true := rdc_all _ 0 _ rfl (by decide +kernel)
def tb_X9_cut_2 : List (Nat × Instr × Nat) := [(142, .aload_n 0, 1), (143, .iload_n 2, 1), (144, .putfield 74, 3), (147, .aload_n 0, 1), (148, .iload 4, 2), (150, .putfield 77, 3), (153, .aload_n 0, 1), (154, .invokevirtual 314, 3), (157, .aload_n 0, 1), (158, .getfield 80, 3), (161, .invokestatic 220, 3), (164, .ireturn, 1)]
theorem ok_X9_cut_2 : (tb_X9_cut_2.all fun q => decide (decode cX9_cut q.1 = .ok q.2)) = true := rdc_all _ 0 _ rfl (by decide +kernel)
def tb_X9_sew_0 : List (Nat × Instr × Nat) := [(0, .iload_n 1, 1), (1, .invokestatic 235, 3), (4, .ifCond .ne 5, 3), (7, .iconst (-1), 1), (8, .ireturn, 1), (9, .aload_n 0, 1), (10, .iload_n 1, 1), (11, .invokevirtual 239, 3), (14, .ifCond .eq 36, 3), (17, .iload_n 2, 1), (18, .ifCond .eq 19, 3), (21, .aload_n 0, 1), (22, .getfield 20, 3), (25, .iload_n 1, 1), (26, .iaload, 1), (27, .aload_n 0, 1), (28, .getfield 77, 3), (31, .if_icmp .eq 22, 3), (34, .goto 16, 3), (37, .aload_n 0, 1), (38, .getfield 17, 3), (41, .iload_n 1, 1), (42, .iaload, 1), (43, .aload_n 0, 1), (44, .getfield 74, 3), (47, .if_icmp .eq 6, 3), (50, .bipush (-2), 2), (52, .ireturn, 1), (53, .iload_n 2, 1), (54, .ifCond .eq 17, 3), (57, .aload_n 0, 1), (58, .getfield 74, 3), (61, .aload_n 0, 1), (62, .getfield 17, 3), (65, .iload_n 1, 1), (66, .iaload, 1), (67, .iadd, 1), (68, .goto 14, 3), (71, .aload_n 0, 1), (72, .getfield 77, 3)]
theorem ok_X9_sew_0 : (tb_X9_sew_0.all fun q => decide (decode cX9_sew q.1 = .ok q.2)) = true := rdc_all _ 0 _ rfl (by decide +kernel)
def tb_X9_sew_1 : List (Nat × Instr × Nat) := [(75, .aload_n 0, 1), (76, .getfield 20, 3), (79, .iload_n 1, 1), (80, .iaload, 1), (81, .iadd, 1), (82, .bipush 8, 2), (84, .if_icmp .le 6, 3), (87, .bipush (-3), 2), (89, .ireturn, 1), (90, .aload_n 0, 1), (91, .dup, 1), (92, .getfield 80, 3), (95, .aload_n 0, 1), (96, .getfield 13, 3), (99, .iload_n 1, 1), (100, .laload, 1), (101, .iload_n 2, 1), (102, .ifCond .eq 13, 3), (105, .bipush 8, 2), (107, .aload_n 0, 1), (108, .getfield 74, 3), (111, .imul, 1), (112, .goto 7, 3), (115, .aload_n 0, 1), (116, .getfield 77, 3), (119, .lshl, 1), (120, .lor, 1), (121, .putfield 80, 3), (124, .aload_n 0, 1), (125, .dup, 1), (126, .getfield 74, 3), (129, .iload_n 2, 1), (130, .ifCond .eq 12, 3), (133, .aload_n 0, 1), (134, .getfield 17, 3), (137, .iload_n 1, 1), (138, .iaload, 1), (139, .goto 4, 3), (142, .iconst 0, 1), (143, .iadd, 1)]
theorem ok_X9_sew_1 : (tb_X9_sew_1.all fun q => decide (decode cX9_sew q.1 = .ok q.2)) = true := rdc_all _ 0 _ rfl (by decide +kernel)
def tb_X9_sew_2 : List (Nat × Instr × Nat) := [(144, .putfield 74, 3), (147, .aload_n 0, 1), (148, .dup, 1), (149, .getfield 77, 3), (152, .iload_n 2, 1), (153, .ifCond .eq 7, 3), (156, .iconst 0, 1), (157, .goto 9, 3), (160, .aload_n 0, 1), (161, .getfield 20, 3), (164, .iload_n 1, 1), (165, .iaload, 1), (166, .iadd, 1), (167, .putfield 77, 3), (170, .aload_n 0, 1), (171, .invokevirtual 314, 3), (174, .aload_n 0, 1), (175, .getfield 80, 3), (178, .invokestatic 220, 3), (181, .ireturn, 1)]
theorem ok_X9_sew_2 : (tb_X9_sew_2.all fun q => decide (decode cX9_sew q.1 = .ok q.2)) = true := rdc_all _ 0 _ rfl (by decide +kernel)
def tb_X9_findName_0 : List (Nat × Instr × Nat) := [(0, .aload_n 0, 1), (1, .bipush (-4), 2), (3, .putfield 317, 3), (6, .iconst 0, 1), (7, .istore 5, 2), (9, .iload 5, 2), (11, .bipush 8, 2), (13, .if_icmp .ge 109, 3), (16, .iload 5, 2), (18, .iconst 2, 1), (19, .irem, 1), (20, .iconst 1, 1), (21, .if_icmp .ne 8, 3), (24, .iload 4, 2), (26, .goto 4, 3), (29, .iload_n 3, 1), (30, .istore 6, 2), (32, .iload 5, 2), (34, .iconst 2, 1), (35, .irem, 1), (36, .iconst 1, 1), (37, .if_icmp .ne 7, 3), (40, .iload_n 3, 1), (41, .goto 5, 3), (44, .iload 4, 2), (46, .istore 7, 2), (48, .lload_n 1, 1), (49, .iload_n 3, 1), (50, .iload 4, 2), (52, .iload 5, 2), (54, .invokestatic 310, 3), (57, .iload 6, 2), (59, .iload 7, 2), (61, .invokestatic 227, 3), (64, .lstore 8, 2), (66, .iload 6, 2), (68, .iload 7, 2), (70, .if_icmp .gt 46, 3), (73, .aload_n 0, 1), (74, .getfield 317, 3)]
theorem ok_X9_findName_0 : (tb_X9_findName_0.all fun q => decide (decode cX9_findName q.1 = .ok q.2)) = true := rdc_all _ 0 _ rfl (by decide +kernel)
def tb_X9_findName_1 : List (Nat × Instr × Nat) := [(77, .bipush (-4), 2), (79, .if_icmp .eq 13, 3), (82, .lload 8, 2), (84, .aload_n 0, 1), (85, .getfield 320, 3), (88, .lcmp, 1), (89, .ifCond .ge 27, 3), (92, .aload_n 0, 1), (93, .lload 8, 2), (95, .putfield 320, 3), (98, .aload_n 0, 1), (99, .iload 5, 2), (101, .putfield 317, 3), (104, .aload_n 0, 1), (105, .iload 6, 2), (107, .putfield 323, 3), (110, .aload_n 0, 1), (111, .iload 7, 2), (113, .putfield 326, 3), (116, .iinc 5 1, 3), (119, .goto (-110), 3), (122, .return_, 1)]
theorem ok_X9_findName_1 : (tb_X9_findName_1.all fun q => decide (decode cX9_findName q.1 = .ok q.2)) = true := rdc_all _ 0 _ rfl (by decide +kernel)
def tb_X9_name_0 : List (Nat × Instr × Nat) := [(0, .iload_n 1, 1), (1, .i2l, 1), (2, .lconst 0, 1), (3, .lconst 1, 1), (4, .invokestatic 97, 3), (7, .ifCond .ne 7, 3), (10, .ldc2_w 204, 3), (13, .lreturn, 1), (14, .aload_n 0, 1), (15, .aload_n 0, 1), (16, .getfield 80, 3), (19, .aload_n 0, 1), (20, .getfield 74, 3), (23, .aload_n 0, 1), (24, .getfield 77, 3), (27, .invokevirtual 329, 3), (30, .iload_n 1, 1), (31, .ifCond .ne 10, 3), (34, .aload_n 0, 1), (35, .getfield 320, 3), (38, .goto 8, 3), (41, .aload_n 0, 1), (42, .getfield 317, 3), (45, .i2l, 1), (46, .lreturn, 1)]
theorem ok_X9_name_0 : (tb_X9_name_0.all fun q => decide (decode cX9_name q.1 = .ok q.2)) = true := rdc_all _ 0 _ rfl (by decide +kernel)
def tb_X9_cousin_0 : List (Nat × Instr × Nat) := [(0, .iload_n 1, 1), (1, .invokestatic 235, 3), (4, .ifCond .ne 5, 3), (7, .iconst (-1), 1), (8, .ireturn, 1), (9, .aload_n 0, 1), (10, .iload_n 1, 1), (11, .invokevirtual 239, 3), (14, .ifCond .ne 6, 3), (17, .bipush (-2), 2), (19, .ireturn, 1), (20, .aload_n 0, 1), (21, .aload_n 0, 1), (22, .getfield 13, 3), (25, .iload_n 1, 1), (26, .laload, 1), (27, .aload_n 0, 1), (28, .getfield 17, 3), (31, .iload_n 1, 1), (32, .iaload, 1), (33, .aload_n 0, 1), (34, .getfield 20, 3), (37, .iload_n 1, 1), (38, .iaload, 1), (39, .invokevirtual 329, 3), (42, .aload_n 0, 1), (43, .getfield 320, 3), (46, .lstore_n 2, 1), (47, .aload_n 0, 1), (48, .getfield 323, 3), (51, .istore 4, 2), (53, .aload_n 0, 1), (54, .getfield 326, 3), (57, .istore 5, 2), (59, .aload_n 0, 1), (60, .aload_n 0, 1), (61, .getfield 80, 3), (64, .aload_n 0, 1), (65, .getfield 74, 3), (68, .aload_n 0, 1)]
theorem ok_X9_cousin_0 : (tb_X9_cousin_0.all fun q => decide (decode cX9_cousin q.1 = .ok q.2)) = true := rdc_all _ 0 _ rfl (by decide +kernel)
def tb_X9_cousin_1 : List (Nat × Instr × Nat) := [(69, .getfield 77, 3), (72, .invokevirtual 329, 3), (75, .lload_n 2, 1), (76, .aload_n 0, 1), (77, .getfield 320, 3), (80, .lcmp, 1), (81, .ifCond .ne 25, 3), (84, .iload 4, 2), (86, .aload_n 0, 1), (87, .getfield 323, 3), (90, .if_icmp .ne 16, 3), (93, .iload 5, 2), (95, .aload_n 0, 1), (96, .getfield 326, 3), (99, .if_icmp .ne 7, 3), (102, .iconst 1, 1), (103, .goto 4, 3), (106, .iconst 0, 1), (107, .invokestatic 200, 3), (110, .ireturn, 1)]
theorem ok_X9_cousin_1 : (tb_X9_cousin_1.all fun q => decide (decode cX9_cousin q.1 = .ok q.2)) = true := rdc_all _ 0 _ rfl (by decide +kernel)
def tb_X9_keep_0 : List (Nat × Instr × Nat) := [(0, .iload_n 1, 1), (1, .invokestatic 235, 3), (4, .ifCond .ne 5, 3), (7, .iconst (-1), 1), (8, .ireturn, 1), (9, .aload_n 0, 1), (10, .iload_n 1, 1), (11, .invokevirtual 239, 3), (14, .invokestatic 200, 3), (17, .istore_n 2, 1), (18, .aload_n 0, 1), (19, .getfield 13, 3), (22, .iload_n 1, 1), (23, .aload_n 0, 1), (24, .getfield 80, 3), (27, .lastore, 1), (28, .aload_n 0, 1), (29, .getfield 17, 3), (32, .iload_n 1, 1), (33, .aload_n 0, 1), (34, .getfield 74, 3), (37, .iastore, 1), (38, .aload_n 0, 1), (39, .getfield 20, 3), (42, .iload_n 1, 1), (43, .aload_n 0, 1), (44, .getfield 77, 3), (47, .iastore, 1), (48, .iload_n 2, 1), (49, .ireturn, 1)]
theorem ok_X9_keep_0 : (tb_X9_keep_0.all fun q => decide (decode cX9_keep q.1 = .ok q.2)) = true := rdc_all _ 0 _ rfl (by decide +kernel)
def tb_X9_back_0 : List (Nat × Instr × Nat) := [(0, .iload_n 1, 1), (1, .invokestatic 235, 3), (4, .ifCond .ne 5, 3), (7, .iconst (-1), 1), (8, .ireturn, 1), (9, .aload_n 0, 1), (10, .iload_n 1, 1), (11, .invokevirtual 239, 3), (14, .ifCond .ne 6, 3), (17, .bipush (-2), 2), (19, .ireturn, 1), (20, .aload_n 0, 1), (21, .iload_n 1, 1), (22, .invokevirtual 242, 3), (25, .ifCond .ne 7, 3), (28, .aload_n 0, 1), (29, .invokevirtual 314, 3), (32, .aload_n 0, 1), (33, .aload_n 0, 1), (34, .getfield 13, 3), (37, .iload_n 1, 1), (38, .laload, 1), (39, .putfield 80, 3), (42, .aload_n 0, 1), (43, .aload_n 0, 1), (44, .getfield 17, 3), (47, .iload_n 1, 1), (48, .iaload, 1), (49, .putfield 74, 3), (52, .aload_n 0, 1), (53, .aload_n 0, 1), (54, .getfield 20, 3), (57, .iload_n 1, 1), (58, .iaload, 1), (59, .putfield 77, 3), (62, .aload_n 0, 1), (63, .getfield 80, 3), (66, .invokestatic 220, 3), (69, .ireturn, 1)]
theorem ok_X9_back_0 : (tb_X9_back_0.all fun q => decide (decode cX9_back q.1 = .ok q.2)) = true := rdc_all _ 0 _ rfl (by decide +kernel)
def tb_X9_isSheet_0 : List (Nat × Instr × Nat) := [(0, .iload_n 0, 1), (1, .i2l, 1), (2, .lconst 0, 1), (3, .ldc2_w 251, 3), (6, .invokestatic 97, 3), (9, .ifCond .eq 19, 3), (12, .iload_n 1, 1), (13, .i2l, 1), (14, .lconst 0, 1), (15, .ldc2_w 189, 3), (18, .invokestatic 97, 3), (21, .ifCond .eq 7, 3), (24, .iconst 1, 1), (25, .goto 4, 3), (28, .iconst 0, 1), (29, .ireturn, 1)]
theorem ok_X9_isSheet_0 : (tb_X9_isSheet_0.all fun q => decide (decode cX9_isSheet q.1 = .ok q.2)) = true := rdc_all _ 0 _ rfl (by decide +kernel)
def tb_X9_sheet_0 : List (Nat × Instr × Nat) := [(0, .iload_n 1, 1), (1, .iload_n 2, 1), (2, .invokestatic 333, 3), (5, .ifCond .eq 9, 3), (8, .iload_n 3, 1), (9, .bipush 40, 2), (11, .if_icmp .le 5, 3), (14, .iconst (-1), 1), (15, .ireturn, 1), (16, .iload_n 3, 1), (17, .ifCond .ge 6, 3), (20, .bipush (-14), 2), (22, .ireturn, 1), (23, .aload_n 0, 1), (24, .getfield 35, 3), (27, .iload_n 1, 1), (28, .iload_n 2, 1), (29, .iastore, 1), (30, .aload_n 0, 1), (31, .getfield 38, 3), (34, .iload_n 1, 1), (35, .iload_n 3, 1), (36, .iastore, 1), (37, .iconst 0, 1), (38, .istore 4, 2), (40, .iload 4, 2), (42, .bipush 40, 2), (44, .if_icmp .ge 22, 3), (47, .aload_n 0, 1), (48, .getfield 41, 3), (51, .bipush 40, 2), (53, .iload_n 1, 1), (54, .imul, 1), (55, .iload 4, 2), (57, .iadd, 1), (58, .iconst 0, 1), (59, .iastore, 1), (60, .iinc 4 1, 3), (63, .goto (-23), 3), (66, .iconst 1, 1)]
theorem ok_X9_sheet_0 : (tb_X9_sheet_0.all fun q => decide (decode cX9_sheet q.1 = .ok q.2)) = true := rdc_all _ 0 _ rfl (by decide +kernel)
def tb_X9_sheet_1 : List (Nat × Instr × Nat) := [(67, .ireturn, 1)]
theorem ok_X9_sheet_1 : (tb_X9_sheet_1.all fun q => decide (decode cX9_sheet q.1 = .ok q.2)) = true := rdc_all _ 0 _ rfl (by decide +kernel)
def tb_X9_lay_0 : List (Nat × Instr × Nat) := [(0, .iload_n 1, 1), (1, .iconst 0, 1), (2, .invokestatic 333, 3), (5, .ifCond .ne 5, 3), (8, .iconst (-1), 1), (9, .ireturn, 1), (10, .aload_n 0, 1), (11, .getfield 35, 3), (14, .iload_n 1, 1), (15, .iaload, 1), (16, .bipush (-4), 2), (18, .if_icmp .ne 6, 3), (21, .bipush (-11), 2), (23, .ireturn, 1), (24, .iload_n 2, 1), (25, .i2l, 1), (26, .lconst 0, 1), (27, .aload_n 0, 1), (28, .getfield 38, 3), (31, .iload_n 1, 1), (32, .iaload, 1), (33, .iconst 1, 1), (34, .isub, 1), (35, .i2l, 1), (36, .invokestatic 97, 3), (39, .ifCond .ne 6, 3), (42, .bipush (-12), 2), (44, .ireturn, 1), (45, .aload_n 0, 1), (46, .getfield 41, 3), (49, .bipush 40, 2), (51, .iload_n 1, 1), (52, .imul, 1), (53, .iload_n 2, 1), (54, .iadd, 1), (55, .aload_n 0, 1), (56, .getfield 35, 3), (59, .iload_n 1, 1), (60, .iaload, 1), (61, .ifCond .ne 8, 3)]
theorem ok_X9_lay_0 : (tb_X9_lay_0.all fun q => decide (decode cX9_lay q.1 = .ok q.2)) = true := rdc_all _ 0 _ rfl (by decide +kernel)
def tb_X9_lay_1 : List (Nat × Instr × Nat) := [(64, .iload_n 3, 1), (65, .i2b, 1), (66, .goto 19, 3), (69, .aload_n 0, 1), (70, .getfield 35, 3), (73, .iload_n 1, 1), (74, .iaload, 1), (75, .iconst 1, 1), (76, .if_icmp .ne 8, 3), (79, .iload_n 3, 1), (80, .i2s, 1), (81, .goto 4, 3), (84, .iload_n 3, 1), (85, .iastore, 1), (86, .iconst 1, 1), (87, .ireturn, 1)]
theorem ok_X9_lay_1 : (tb_X9_lay_1.all fun q => decide (decode cX9_lay q.1 = .ok q.2)) = true := rdc_all _ 0 _ rfl (by decide +kernel)
def tb_X9_read_0 : List (Nat × Instr × Nat) := [(0, .iload_n 1, 1), (1, .iload_n 2, 1), (2, .invokestatic 333, 3), (5, .ifCond .eq 16, 3), (8, .iload 4, 2), (10, .i2l, 1), (11, .lconst 0, 1), (12, .ldc2_w 336, 3), (15, .invokestatic 97, 3), (18, .ifCond .ne 5, 3), (21, .iconst (-1), 1), (22, .ireturn, 1), (23, .iconst 0, 1), (24, .istore 5, 2), (26, .iconst 0, 1), (27, .istore 6, 2), (29, .iconst 0, 1), (30, .istore 7, 2), (32, .iload 7, 2), (34, .iload 4, 2), (36, .if_icmp .ge 154, 3), (39, .iload 5, 2), (41, .ifCond .ne 149, 3), (44, .iconst 0, 1), (45, .istore 8, 2), (47, .iload 8, 2), (49, .iconst 2, 1), (50, .if_icmp .ge 84, 3), (53, .iload 5, 2), (55, .ifCond .ne 79, 3), (58, .iload_n 3, 1), (59, .i2l, 1), (60, .iconst 2, 1), (61, .iload 7, 2), (63, .imul, 1), (64, .i2l, 1), (65, .ladd, 1), (66, .iload 8, 2), (68, .i2l, 1), (69, .ladd, 1)]
theorem ok_X9_read_0 : (tb_X9_read_0.all fun q => decide (decode cX9_read q.1 = .ok q.2)) = true := rdc_all _ 0 _ rfl (by decide +kernel)
def tb_X9_read_1 : List (Nat × Instr × Nat) := [(70, .lstore 9, 2), (72, .aload_n 0, 1), (73, .getfield 35, 3), (76, .iload_n 1, 1), (77, .iaload, 1), (78, .bipush (-4), 2), (80, .if_icmp .ne 7, 3), (83, .iconst 1, 1), (84, .goto 42, 3), (87, .aload_n 0, 1), (88, .getfield 35, 3), (91, .iload_n 1, 1), (92, .iaload, 1), (93, .iload_n 2, 1), (94, .if_icmp .eq 7, 3), (97, .iconst 3, 1), (98, .goto 28, 3), (101, .lload 9, 2), (103, .lconst 0, 1), (104, .lcmp, 1), (105, .ifCond .lt 16, 3), (108, .lload 9, 2), (110, .aload_n 0, 1), (111, .getfield 38, 3), (114, .iload_n 1, 1), (115, .iaload, 1), (116, .i2l, 1), (117, .lcmp, 1), (118, .ifCond .lt 7, 3), (121, .iconst 2, 1), (122, .goto 4, 3), (125, .iconst 0, 1), (126, .istore 5, 2), (128, .iinc 8 1, 3), (131, .goto (-84), 3), (134, .iload 5, 2), (136, .ifCond .ne 48, 3), (139, .bipush 40, 2), (141, .iload_n 1, 1), (142, .imul, 1)]
theorem ok_X9_read_1 : (tb_X9_read_1.all fun q => decide (decode cX9_read q.1 = .ok q.2)) = true := rdc_all _ 0 _ rfl (by decide +kernel)
def tb_X9_read_2 : List (Nat × Instr × Nat) := [(143, .iload_n 3, 1), (144, .iadd, 1), (145, .iconst 2, 1), (146, .iload 7, 2), (148, .imul, 1), (149, .iadd, 1), (150, .istore 8, 2), (152, .aload_n 0, 1), (153, .aload_n 0, 1), (154, .getfield 41, 3), (157, .iload 8, 2), (159, .iaload, 1), (160, .aload_n 0, 1), (161, .getfield 41, 3), (164, .iload 8, 2), (166, .iconst 1, 1), (167, .iadd, 1), (168, .iaload, 1), (169, .invokevirtual 214, 3), (172, .ifCond .ne 9, 3), (175, .bipush (-20), 2), (177, .iload 7, 2), (179, .isub, 1), (180, .ireturn, 1), (181, .iinc 6 1, 3), (184, .iinc 7 1, 3), (187, .goto (-155), 3), (190, .aload_n 0, 1), (191, .iload 5, 2), (193, .putfield 338, 3), (196, .iconst 0, 1), (197, .istore 7, 2), (199, .iload 7, 2), (201, .iload 6, 2), (203, .if_icmp .ge 51, 3), (206, .bipush 40, 2), (208, .iload_n 1, 1), (209, .imul, 1), (210, .iload_n 3, 1), (211, .iadd, 1)]
theorem ok_X9_read_2 : (tb_X9_read_2.all fun q => decide (decode cX9_read q.1 = .ok q.2)) = true := rdc_all _ 0 _ rfl (by decide +kernel)
def tb_X9_read_3 : List (Nat × Instr × Nat) := [(212, .iconst 2, 1), (213, .iload 7, 2), (215, .imul, 1), (216, .iadd, 1), (217, .istore 8, 2), (219, .aload_n 0, 1), (220, .dup, 1), (221, .getfield 80, 3), (224, .aload_n 0, 1), (225, .aload_n 0, 1), (226, .getfield 41, 3), (229, .iload 8, 2), (231, .iaload, 1), (232, .aload_n 0, 1), (233, .getfield 41, 3), (236, .iload 8, 2), (238, .iconst 1, 1), (239, .iadd, 1), (240, .iaload, 1), (241, .invokevirtual 217, 3), (244, .lxor, 1), (245, .putfield 80, 3), (248, .iinc 7 1, 3), (251, .goto (-52), 3), (254, .iload 6, 2), (256, .ireturn, 1)]
theorem ok_X9_read_3 : (tb_X9_read_3.all fun q => decide (decode cX9_read q.1 = .ok q.2)) = true := rdc_all _ 0 _ rfl (by decide +kernel)
def tb_X9_torn_0 : List (Nat × Instr × Nat) := [(0, .aload_n 0, 1), (1, .getfield 338, 3), (4, .ireturn, 1)]
theorem ok_X9_torn_0 : (tb_X9_torn_0.all fun q => decide (decode cX9_torn q.1 = .ok q.2)) = true := rdc_all _ 0 _ rfl (by decide +kernel)
def tb_X9_count_0 : List (Nat × Instr × Nat) := [(0, .iload_n 1, 1), (1, .tableswitch 128 0 5 #[39, 47, 57, 82, 100, 105], 39), (40, .aload_n 0, 1), (41, .getfield 80, 3), (44, .invokestatic 220, 3), (47, .ireturn, 1), (48, .aload_n 0, 1), (49, .getfield 74, 3), (52, .aload_n 0, 1), (53, .getfield 77, 3), (56, .imul, 1), (57, .ireturn, 1), (58, .aload_n 0, 1), (59, .getfield 86, 3), (62, .ifCond .eq 18, 3), (65, .aload_n 0, 1), (66, .getfield 80, 3), (69, .aload_n 0, 1), (70, .getfield 83, 3), (73, .lxor, 1), (74, .invokestatic 220, 3), (77, .goto 5, 3), (80, .bipush (-4), 2), (82, .ireturn, 1), (83, .aload_n 0, 1), (84, .iconst 0, 1), (85, .invokevirtual 239, 3), (88, .invokestatic 200, 3), (91, .aload_n 0, 1), (92, .iconst 1, 1), (93, .invokevirtual 239, 3), (96, .invokestatic 200, 3), (99, .iadd, 1), (100, .ireturn, 1), (101, .aload_n 0, 1), (102, .getfield 92, 3), (105, .ireturn, 1), (106, .aload_n 0, 1), (107, .getfield 35, 3), (110, .iconst 0, 1)]
theorem ok_X9_count_0 : (tb_X9_count_0.all fun q => decide (decode cX9_count q.1 = .ok q.2)) = true := rdc_all _ 0 _ rfl (by decide +kernel)
def tb_X9_count_1 : List (Nat × Instr × Nat) := [(111, .iaload, 1), (112, .bipush (-4), 2), (114, .if_icmp .ne 8, 3), (117, .bipush (-4), 2), (119, .goto 9, 3), (122, .aload_n 0, 1), (123, .getfield 38, 3), (126, .iconst 0, 1), (127, .iaload, 1), (128, .ireturn, 1), (129, .iconst (-1), 1), (130, .ireturn, 1)]
theorem ok_X9_count_1 : (tb_X9_count_1.all fun q => decide (decode cX9_count q.1 = .ok q.2)) = true := rdc_all _ 0 _ rfl (by decide +kernel)
def tb_J6_bitCount_0f7a4_0 : List (Nat × Instr × Nat) := [(0, .iload_n 0, 1), (1, .iload_n 0, 1), (2, .iconst 1, 1), (3, .iushr, 1), (4, .ldc_w 265, 3), (7, .iand, 1), (8, .isub, 1), (9, .istore_n 0, 1), (10, .iload_n 0, 1), (11, .ldc_w 266, 3), (14, .iand, 1), (15, .iload_n 0, 1), (16, .iconst 2, 1), (17, .iushr, 1), (18, .ldc_w 266, 3), (21, .iand, 1), (22, .iadd, 1), (23, .istore_n 0, 1), (24, .iload_n 0, 1), (25, .iload_n 0, 1), (26, .iconst 4, 1), (27, .iushr, 1), (28, .iadd, 1), (29, .ldc_w 267, 3), (32, .iand, 1), (33, .istore_n 0, 1), (34, .iload_n 0, 1), (35, .iload_n 0, 1), (36, .bipush 8, 2), (38, .iushr, 1), (39, .iadd, 1), (40, .istore_n 0, 1), (41, .iload_n 0, 1), (42, .iload_n 0, 1), (43, .bipush 16, 2), (45, .iushr, 1), (46, .iadd, 1), (47, .istore_n 0, 1), (48, .iload_n 0, 1), (49, .bipush 63, 2)]
theorem ok_J6_bitCount_0f7a4_0 : (tb_J6_bitCount_0f7a4_0.all fun q => decide (decode cJ6_bitCount_0f7a4 q.1 = .ok q.2)) = true := rdc_all _ 0 _ rfl (by decide +kernel)
def tb_J6_bitCount_0f7a4_1 : List (Nat × Instr × Nat) := [(51, .iand, 1), (52, .ireturn, 1)]
theorem ok_J6_bitCount_0f7a4_1 : (tb_J6_bitCount_0f7a4_1.all fun q => decide (decode cJ6_bitCount_0f7a4 q.1 = .ok q.2)) = true := rdc_all _ 0 _ rfl (by decide +kernel)
def tb_J13_bitCount_95d88_0 : List (Nat × Instr × Nat) := [(0, .lload_n 0, 1), (1, .lload_n 0, 1), (2, .iconst 1, 1), (3, .lushr, 1), (4, .ldc2_w 314, 3), (7, .land, 1), (8, .lsub, 1), (9, .lstore_n 0, 1), (10, .lload_n 0, 1), (11, .ldc2_w 316, 3), (14, .land, 1), (15, .lload_n 0, 1), (16, .iconst 2, 1), (17, .lushr, 1), (18, .ldc2_w 316, 3), (21, .land, 1), (22, .ladd, 1), (23, .lstore_n 0, 1), (24, .lload_n 0, 1), (25, .lload_n 0, 1), (26, .iconst 4, 1), (27, .lushr, 1), (28, .ladd, 1), (29, .ldc2_w 318, 3), (32, .land, 1), (33, .lstore_n 0, 1), (34, .lload_n 0, 1), (35, .lload_n 0, 1), (36, .bipush 8, 2), (38, .lushr, 1), (39, .ladd, 1), (40, .lstore_n 0, 1), (41, .lload_n 0, 1), (42, .lload_n 0, 1), (43, .bipush 16, 2), (45, .lushr, 1), (46, .ladd, 1), (47, .lstore_n 0, 1), (48, .lload_n 0, 1), (49, .lload_n 0, 1)]
theorem ok_J13_bitCount_95d88_0 : (tb_J13_bitCount_95d88_0.all fun q => decide (decode cJ13_bitCount_95d88 q.1 = .ok q.2)) = true := rdc_all _ 0 _ rfl (by decide +kernel)
def tb_J13_bitCount_95d88_1 : List (Nat × Instr × Nat) := [(50, .bipush 32, 2), (52, .lushr, 1), (53, .ladd, 1), (54, .lstore_n 0, 1), (55, .lload_n 0, 1), (56, .l2i, 1), (57, .bipush 127, 2), (59, .iand, 1), (60, .ireturn, 1)]
theorem ok_J13_bitCount_95d88_1 : (tb_J13_bitCount_95d88_1.all fun q => decide (decode cJ13_bitCount_95d88 q.1 = .ok q.2)) = true := rdc_all _ 0 _ rfl (by decide +kernel)
def tb_J9_max_7cf53_0 : List (Nat × Instr × Nat) := [(0, .iload_n 0, 1), (1, .iload_n 1, 1), (2, .if_icmp .lt 7, 3), (5, .iload_n 0, 1), (6, .goto 4, 3), (9, .iload_n 1, 1), (10, .ireturn, 1)]
theorem ok_J9_max_7cf53_0 : (tb_J9_max_7cf53_0.all fun q => decide (decode cJ9_max_7cf53 q.1 = .ok q.2)) = true := rdc_all _ 0 _ rfl (by decide +kernel)
def tb_J9_min_7cf53_0 : List (Nat × Instr × Nat) := [(0, .iload_n 0, 1), (1, .iload_n 1, 1), (2, .if_icmp .gt 7, 3), (5, .iload_n 0, 1), (6, .goto 4, 3), (9, .iload_n 1, 1), (10, .ireturn, 1)]
theorem ok_J9_min_7cf53_0 : (tb_J9_min_7cf53_0.all fun q => decide (decode cJ9_min_7cf53 q.1 = .ok q.2)) = true := rdc_all _ 0 _ rfl (by decide +kernel)
def tb_J0_length_8abf5_0 : List (Nat × Instr × Nat) := [(0, .aload_n 0, 1), (1, .getfield 9, 3), (4, .arraylength, 1), (5, .aload_n 0, 1), (6, .invokevirtual 335, 3), (9, .ishr, 1), (10, .ireturn, 1)]
theorem ok_J0_length_8abf5_0 : (tb_J0_length_8abf5_0.all fun q => decide (decode cJ0_length_8abf5 q.1 = .ok q.2)) = true := rdc_all _ 0 _ rfl (by decide +kernel)
def tb_J0_charAt_5068e_0 : List (Nat × Instr × Nat) := [(0, .aload_n 0, 1), (1, .invokevirtual 492, 3), (4, .ifCond .eq 12, 3), (7, .aload_n 0, 1), (8, .getfield 9, 3), (11, .iload_n 1, 1), (12, .invokestatic 495, 3), (15, .ireturn, 1), (16, .aload_n 0, 1), (17, .getfield 9, 3), (20, .iload_n 1, 1), (21, .invokestatic 498, 3), (24, .ireturn, 1)]
theorem ok_J0_charAt_5068e_0 : (tb_J0_charAt_5068e_0.all fun q => decide (decode cJ0_charAt_5068e q.1 = .ok q.2)) = true := rdc_all _ 0 _ rfl (by decide +kernel)
def tb_J0_coder_7d493_0 : List (Nat × Instr × Nat) := [(0, .getstatic 38, 3), (3, .ifCond .eq 10, 3), (6, .aload_n 0, 1), (7, .getfield 15, 3), (10, .goto 4, 3), (13, .iconst 1, 1), (14, .ireturn, 1)]
theorem ok_J0_coder_7d493_0 : (tb_J0_coder_7d493_0.all fun q => decide (decode cJ0_coder_7d493 q.1 = .ok q.2)) = true := rdc_all _ 0 _ rfl (by decide +kernel)
def tb_J0_isLatin1_aae02_0 : List (Nat × Instr × Nat) := [(0, .getstatic 38, 3), (3, .ifCond .eq 14, 3), (6, .aload_n 0, 1), (7, .getfield 15, 3), (10, .ifCond .ne 7, 3), (13, .iconst 1, 1), (14, .goto 4, 3), (17, .iconst 0, 1), (18, .ireturn, 1)]
theorem ok_J0_isLatin1_aae02_0 : (tb_J0_isLatin1_aae02_0.all fun q => decide (decode cJ0_isLatin1_aae02 q.1 = .ok q.2)) = true := rdc_all _ 0 _ rfl (by decide +kernel)
def tb_J0_checkIndex_df160_0 : List (Nat × Instr × Nat) := [(0, .iload_n 0, 1), (1, .iload_n 1, 1), (2, .getstatic 1053, 3), (5, .invokestatic 1059, 3), (8, .pop, 1), (9, .return_, 1)]
theorem ok_J0_checkIndex_df160_0 : (tb_J0_checkIndex_df160_0.all fun q => decide (decode cJ0_checkIndex_df160 q.1 = .ok q.2)) = true := rdc_all _ 0 _ rfl (by decide +kernel)
def tb_J1_charAt_3b067_0 : List (Nat × Instr × Nat) := [(0, .iload_n 1, 1), (1, .aload_n 0, 1), (2, .arraylength, 1), (3, .invokestatic 9, 3), (6, .aload_n 0, 1), (7, .iload_n 1, 1), (8, .baload, 1), (9, .sipush 255, 3), (12, .iand, 1), (13, .i2c, 1), (14, .ireturn, 1)]
theorem ok_J1_charAt_3b067_0 : (tb_J1_charAt_3b067_0.all fun q => decide (decode cJ1_charAt_3b067 q.1 = .ok q.2)) = true := rdc_all _ 0 _ rfl (by decide +kernel)
def tb_J2_getChar_3b067_0 : List (Nat × Instr × Nat) := [(0, .getstatic 44, 3), (3, .ifCond .ne 25, 3), (6, .iload_n 1, 1), (7, .ifCond .lt 11, 3), (10, .iload_n 1, 1), (11, .aload_n 0, 1), (12, .invokestatic 48, 3), (15, .if_icmp .lt 13, 3), (18, .new 52, 3), (21, .dup, 1), (22, .ldc 54, 2), (24, .invokespecial 56, 3), (27, .athrow, 1), (28, .iload_n 1, 1), (29, .iconst 1, 1), (30, .ishl, 1), (31, .istore_n 1, 1), (32, .aload_n 0, 1), (33, .iload_n 1, 1), (34, .iinc 1 1, 3), (37, .baload, 1), (38, .sipush 255, 3), (41, .iand, 1), (42, .getstatic 59, 3), (45, .ishl, 1), (46, .aload_n 0, 1), (47, .iload_n 1, 1), (48, .baload, 1), (49, .sipush 255, 3), (52, .iand, 1), (53, .getstatic 63, 3), (56, .ishl, 1), (57, .ior, 1), (58, .i2c, 1), (59, .ireturn, 1)]
theorem ok_J2_getChar_3b067_0 : (tb_J2_getChar_3b067_0.all fun q => decide (decode cJ2_getChar_3b067 q.1 = .ok q.2)) = true := rdc_all _ 0 _ rfl (by decide +kernel)
def tb_J2_length_9d52b_0 : List (Nat × Instr × Nat) := [(0, .aload_n 0, 1), (1, .arraylength, 1), (2, .iconst 1, 1), (3, .ishr, 1), (4, .ireturn, 1)]
theorem ok_J2_length_9d52b_0 : (tb_J2_length_9d52b_0.all fun q => decide (decode cJ2_length_9d52b q.1 = .ok q.2)) = true := rdc_all _ 0 _ rfl (by decide +kernel)
def tb_J2_charAt_3b067_0 : List (Nat × Instr × Nat) := [(0, .iload_n 1, 1), (1, .aload_n 0, 1), (2, .invokestatic 67, 3), (5, .aload_n 0, 1), (6, .iload_n 1, 1), (7, .invokestatic 71, 3), (10, .ireturn, 1)]
theorem ok_J2_charAt_3b067_0 : (tb_J2_charAt_3b067_0.all fun q => decide (decode cJ2_charAt_3b067 q.1 = .ok q.2)) = true := rdc_all _ 0 _ rfl (by decide +kernel)
def tb_J2_checkIndex_2214a_0 : List (Nat × Instr × Nat) := [(0, .iload_n 0, 1), (1, .aload_n 1, 1), (2, .invokestatic 48, 3), (5, .invokestatic 414, 3), (8, .return_, 1)]
theorem ok_J2_checkIndex_2214a_0 : (tb_J2_checkIndex_2214a_0.all fun q => decide (decode cJ2_checkIndex_2214a q.1 = .ok q.2)) = true := rdc_all _ 0 _ rfl (by decide +kernel)
def tb_J3_checkIndex_8e157_0 : List (Nat × Instr × Nat) := [(0, .iload_n 0, 1), (1, .ifCond .lt 8, 3), (4, .iload_n 0, 1), (5, .iload_n 1, 1), (6, .if_icmp .lt 10, 3), (9, .aload_n 2, 1), (10, .iload_n 0, 1), (11, .iload_n 1, 1), (12, .invokestatic 95, 3), (15, .athrow, 1), (16, .iload_n 0, 1), (17, .ireturn, 1)]
theorem ok_J3_checkIndex_8e157_0 : (tb_J3_checkIndex_8e157_0.all fun q => decide (decode cJ3_checkIndex_8e157 q.1 = .ok q.2)) = true := rdc_all _ 0 _ rfl (by decide +kernel)
def tb_L_law_0 : List (Nat × Instr × Nat) := [(0, .new 7, 3), (3, .dup, 1), (4, .invokespecial 9, 3), (7, .astore_n 1, 1), (8, .new 10, 3), (11, .dup, 1), (12, .invokespecial 12, 3), (15, .astore_n 2, 1), (16, .iconst 0, 1), (17, .istore_n 3, 1), (18, .iload_n 3, 1), (19, .aload_n 0, 1), (20, .arraylength, 1), (21, .iconst 5, 1), (22, .isub, 1), (23, .if_icmp .gt 1331, 3), (26, .aload_n 0, 1), (27, .iload_n 3, 1), (28, .iaload, 1), (29, .bipush 63, 2), (31, .iand, 1), (32, .tableswitch 1316 0 37 #[168, 221, 244, 257, 270, 293, 326, 349, 382, 441, 500, 533, 566, 589, 612, 625, 648, 671, 694, 717, 740, 763, 786, 845, 878, 901, 924, 947, 1000, 1049, 1072, 1095, 1118, 1141, 1184, 1227, 1280, 1293], 168), (200, .aload_n 1, 1), (201, .aload_n 0, 1), (202, .iload_n 3, 1), (203, .iconst 1, 1), (204, .iadd, 1), (205, .iaload, 1), (206, .i2l, 1), (207, .bipush 32, 2), (209, .lshl, 1), (210, .aload_n 0, 1), (211, .iload_n 3, 1), (212, .iconst 2, 1), (213, .iadd, 1), (214, .iaload, 1), (215, .i2l, 1), (216, .ldc2_w 13, 3), (219, .land, 1), (220, .lor, 1)]
theorem ok_L_law_0 : (tb_L_law_0.all fun q => decide (decode cL_law q.1 = .ok q.2)) = true := rdc_all _ 0 _ rfl (by decide +kernel)
def tb_L_law_1 : List (Nat × Instr × Nat) := [(221, .invokevirtual 15, 3), (224, .pop, 1), (225, .aload_n 2, 1), (226, .aload_n 0, 1), (227, .iload_n 3, 1), (228, .iconst 1, 1), (229, .iadd, 1), (230, .iaload, 1), (231, .i2l, 1), (232, .bipush 32, 2), (234, .lshl, 1), (235, .aload_n 0, 1), (236, .iload_n 3, 1), (237, .iconst 2, 1), (238, .iadd, 1), (239, .iaload, 1), (240, .i2l, 1), (241, .ldc2_w 13, 3), (244, .land, 1), (245, .lor, 1), (246, .invokevirtual 19, 3), (249, .pop, 1), (250, .goto 1098, 3), (253, .aload_n 1, 1), (254, .aload_n 0, 1), (255, .iload_n 3, 1), (256, .iconst 1, 1), (257, .iadd, 1), (258, .iaload, 1), (259, .invokevirtual 20, 3), (262, .pop, 1), (263, .aload_n 2, 1), (264, .aload_n 0, 1), (265, .iload_n 3, 1), (266, .iconst 1, 1), (267, .iadd, 1), (268, .iaload, 1), (269, .invokevirtual 24, 3), (272, .pop, 1), (273, .goto 1075, 3)]
theorem ok_L_law_1 : (tb_L_law_1.all fun q => decide (decode cL_law q.1 = .ok q.2)) = true := rdc_all _ 0 _ rfl (by decide +kernel)
def tb_L_law_2 : List (Nat × Instr × Nat) := [(276, .aload_n 1, 1), (277, .invokevirtual 25, 3), (280, .pop, 1), (281, .aload_n 2, 1), (282, .invokevirtual 29, 3), (285, .pop, 1), (286, .goto 1062, 3), (289, .aload_n 1, 1), (290, .invokevirtual 30, 3), (293, .pop, 1), (294, .aload_n 2, 1), (295, .invokevirtual 33, 3), (298, .pop, 1), (299, .goto 1049, 3), (302, .aload_n 1, 1), (303, .aload_n 0, 1), (304, .iload_n 3, 1), (305, .iconst 1, 1), (306, .iadd, 1), (307, .iaload, 1), (308, .invokevirtual 34, 3), (311, .pop, 1), (312, .aload_n 2, 1), (313, .aload_n 0, 1), (314, .iload_n 3, 1), (315, .iconst 1, 1), (316, .iadd, 1), (317, .iaload, 1), (318, .invokevirtual 37, 3), (321, .pop, 1), (322, .goto 1026, 3), (325, .aload_n 1, 1), (326, .aload_n 0, 1), (327, .iload_n 3, 1), (328, .iconst 1, 1), (329, .iadd, 1), (330, .iaload, 1), (331, .aload_n 0, 1), (332, .iload_n 3, 1), (333, .iconst 2, 1)]
theorem ok_L_law_2 : (tb_L_law_2.all fun q => decide (decode cL_law q.1 = .ok q.2)) = true := rdc_all _ 0 _ rfl (by decide +kernel)
def tb_L_law_3 : List (Nat × Instr × Nat) := [(334, .iadd, 1), (335, .iaload, 1), (336, .invokevirtual 38, 3), (339, .pop, 1), (340, .aload_n 2, 1), (341, .aload_n 0, 1), (342, .iload_n 3, 1), (343, .iconst 1, 1), (344, .iadd, 1), (345, .iaload, 1), (346, .aload_n 0, 1), (347, .iload_n 3, 1), (348, .iconst 2, 1), (349, .iadd, 1), (350, .iaload, 1), (351, .invokevirtual 42, 3), (354, .pop, 1), (355, .goto 993, 3), (358, .aload_n 1, 1), (359, .aload_n 0, 1), (360, .iload_n 3, 1), (361, .iconst 1, 1), (362, .iadd, 1), (363, .iaload, 1), (364, .invokevirtual 43, 3), (367, .pop2, 1), (368, .aload_n 2, 1), (369, .aload_n 0, 1), (370, .iload_n 3, 1), (371, .iconst 1, 1), (372, .iadd, 1), (373, .iaload, 1), (374, .invokevirtual 47, 3), (377, .pop2, 1), (378, .goto 970, 3), (381, .aload_n 1, 1), (382, .aload_n 0, 1), (383, .iload_n 3, 1), (384, .iconst 1, 1), (385, .iadd, 1)]
theorem ok_L_law_3 : (tb_L_law_3.all fun q => decide (decode cL_law q.1 = .ok q.2)) = true := rdc_all _ 0 _ rfl (by decide +kernel)
def tb_L_law_4 : List (Nat × Instr × Nat) := [(386, .iaload, 1), (387, .aload_n 0, 1), (388, .iload_n 3, 1), (389, .iconst 2, 1), (390, .iadd, 1), (391, .iaload, 1), (392, .invokevirtual 48, 3), (395, .pop, 1), (396, .aload_n 2, 1), (397, .aload_n 0, 1), (398, .iload_n 3, 1), (399, .iconst 1, 1), (400, .iadd, 1), (401, .iaload, 1), (402, .aload_n 0, 1), (403, .iload_n 3, 1), (404, .iconst 2, 1), (405, .iadd, 1), (406, .iaload, 1), (407, .invokevirtual 51, 3), (410, .pop, 1), (411, .goto 937, 3), (414, .aload_n 1, 1), (415, .aload_n 0, 1), (416, .iload_n 3, 1), (417, .iconst 1, 1), (418, .iadd, 1), (419, .iaload, 1), (420, .aload_n 0, 1), (421, .iload_n 3, 1), (422, .iconst 2, 1), (423, .iadd, 1), (424, .iaload, 1), (425, .aload_n 0, 1), (426, .iload_n 3, 1), (427, .iconst 3, 1), (428, .iadd, 1), (429, .iaload, 1), (430, .ifCond .eq 7, 3), (433, .iconst 1, 1)]
theorem ok_L_law_4 : (tb_L_law_4.all fun q => decide (decode cL_law q.1 = .ok q.2)) = true := rdc_all _ 0 _ rfl (by decide +kernel)
def tb_L_law_5 : List (Nat × Instr × Nat) := [(434, .goto 4, 3), (437, .iconst 0, 1), (438, .invokevirtual 52, 3), (441, .pop, 1), (442, .aload_n 2, 1), (443, .aload_n 0, 1), (444, .iload_n 3, 1), (445, .iconst 1, 1), (446, .iadd, 1), (447, .iaload, 1), (448, .aload_n 0, 1), (449, .iload_n 3, 1), (450, .iconst 2, 1), (451, .iadd, 1), (452, .iaload, 1), (453, .aload_n 0, 1), (454, .iload_n 3, 1), (455, .iconst 3, 1), (456, .iadd, 1), (457, .iaload, 1), (458, .ifCond .eq 7, 3), (461, .iconst 1, 1), (462, .goto 4, 3), (465, .iconst 0, 1), (466, .invokevirtual 56, 3), (469, .pop, 1), (470, .goto 878, 3), (473, .aload_n 1, 1), (474, .aload_n 0, 1), (475, .iload_n 3, 1), (476, .iconst 1, 1), (477, .iadd, 1), (478, .iaload, 1), (479, .aload_n 0, 1), (480, .iload_n 3, 1), (481, .iconst 2, 1), (482, .iadd, 1), (483, .iaload, 1), (484, .aload_n 0, 1), (485, .iload_n 3, 1)]
theorem ok_L_law_5 : (tb_L_law_5.all fun q => decide (decode cL_law q.1 = .ok q.2)) = true := rdc_all _ 0 _ rfl (by decide +kernel)
def tb_L_law_6 : List (Nat × Instr × Nat) := [(486, .iconst 3, 1), (487, .iadd, 1), (488, .iaload, 1), (489, .ifCond .eq 7, 3), (492, .iconst 1, 1), (493, .goto 4, 3), (496, .iconst 0, 1), (497, .invokevirtual 57, 3), (500, .pop, 1), (501, .aload_n 2, 1), (502, .aload_n 0, 1), (503, .iload_n 3, 1), (504, .iconst 1, 1), (505, .iadd, 1), (506, .iaload, 1), (507, .aload_n 0, 1), (508, .iload_n 3, 1), (509, .iconst 2, 1), (510, .iadd, 1), (511, .iaload, 1), (512, .aload_n 0, 1), (513, .iload_n 3, 1), (514, .iconst 3, 1), (515, .iadd, 1), (516, .iaload, 1), (517, .ifCond .eq 7, 3), (520, .iconst 1, 1), (521, .goto 4, 3), (524, .iconst 0, 1), (525, .invokevirtual 60, 3), (528, .pop, 1), (529, .goto 819, 3), (532, .aload_n 1, 1), (533, .aload_n 0, 1), (534, .iload_n 3, 1), (535, .iconst 1, 1), (536, .iadd, 1), (537, .iaload, 1), (538, .aload_n 0, 1), (539, .iload_n 3, 1)]
theorem ok_L_law_6 : (tb_L_law_6.all fun q => decide (decode cL_law q.1 = .ok q.2)) = true := rdc_all _ 0 _ rfl (by decide +kernel)
def tb_L_law_7 : List (Nat × Instr × Nat) := [(540, .iconst 2, 1), (541, .iadd, 1), (542, .iaload, 1), (543, .invokevirtual 61, 3), (546, .pop, 1), (547, .aload_n 2, 1), (548, .aload_n 0, 1), (549, .iload_n 3, 1), (550, .iconst 1, 1), (551, .iadd, 1), (552, .iaload, 1), (553, .aload_n 0, 1), (554, .iload_n 3, 1), (555, .iconst 2, 1), (556, .iadd, 1), (557, .iaload, 1), (558, .invokevirtual 64, 3), (561, .pop, 1), (562, .goto 786, 3), (565, .aload_n 1, 1), (566, .aload_n 0, 1), (567, .iload_n 3, 1), (568, .iconst 1, 1), (569, .iadd, 1), (570, .iaload, 1), (571, .aload_n 0, 1), (572, .iload_n 3, 1), (573, .iconst 2, 1), (574, .iadd, 1), (575, .iaload, 1), (576, .invokevirtual 65, 3), (579, .pop, 1), (580, .aload_n 2, 1), (581, .aload_n 0, 1), (582, .iload_n 3, 1), (583, .iconst 1, 1), (584, .iadd, 1), (585, .iaload, 1), (586, .aload_n 0, 1), (587, .iload_n 3, 1)]
theorem ok_L_law_7 : (tb_L_law_7.all fun q => decide (decode cL_law q.1 = .ok q.2)) = true := rdc_all _ 0 _ rfl (by decide +kernel)
def tb_L_law_8 : List (Nat × Instr × Nat) := [(588, .iconst 2, 1), (589, .iadd, 1), (590, .iaload, 1), (591, .invokevirtual 68, 3), (594, .pop, 1), (595, .goto 753, 3), (598, .aload_n 1, 1), (599, .aload_n 0, 1), (600, .iload_n 3, 1), (601, .iconst 1, 1), (602, .iadd, 1), (603, .iaload, 1), (604, .invokevirtual 69, 3), (607, .pop, 1), (608, .aload_n 2, 1), (609, .aload_n 0, 1), (610, .iload_n 3, 1), (611, .iconst 1, 1), (612, .iadd, 1), (613, .iaload, 1), (614, .invokevirtual 72, 3), (617, .pop, 1), (618, .goto 730, 3), (621, .aload_n 1, 1), (622, .aload_n 0, 1), (623, .iload_n 3, 1), (624, .iconst 1, 1), (625, .iadd, 1), (626, .iaload, 1), (627, .invokevirtual 73, 3), (630, .pop2, 1), (631, .aload_n 2, 1), (632, .aload_n 0, 1), (633, .iload_n 3, 1), (634, .iconst 1, 1), (635, .iadd, 1), (636, .iaload, 1), (637, .invokevirtual 76, 3), (640, .pop2, 1), (641, .goto 707, 3)]
theorem ok_L_law_8 : (tb_L_law_8.all fun q => decide (decode cL_law q.1 = .ok q.2)) = true := rdc_all _ 0 _ rfl (by decide +kernel)
def tb_L_law_9 : List (Nat × Instr × Nat) := [(644, .aload_n 1, 1), (645, .invokevirtual 77, 3), (648, .pop2, 1), (649, .aload_n 2, 1), (650, .invokevirtual 81, 3), (653, .pop2, 1), (654, .goto 694, 3), (657, .aload_n 1, 1), (658, .aload_n 0, 1), (659, .iload_n 3, 1), (660, .iconst 1, 1), (661, .iadd, 1), (662, .iaload, 1), (663, .invokevirtual 82, 3), (666, .pop, 1), (667, .aload_n 2, 1), (668, .aload_n 0, 1), (669, .iload_n 3, 1), (670, .iconst 1, 1), (671, .iadd, 1), (672, .iaload, 1), (673, .invokevirtual 85, 3), (676, .pop, 1), (677, .goto 671, 3), (680, .aload_n 1, 1), (681, .aload_n 0, 1), (682, .iload_n 3, 1), (683, .iconst 1, 1), (684, .iadd, 1), (685, .iaload, 1), (686, .invokevirtual 86, 3), (689, .pop, 1), (690, .aload_n 2, 1), (691, .aload_n 0, 1), (692, .iload_n 3, 1), (693, .iconst 1, 1), (694, .iadd, 1), (695, .iaload, 1), (696, .invokevirtual 89, 3), (699, .pop, 1)]
theorem ok_L_law_9 : (tb_L_law_9.all fun q => decide (decode cL_law q.1 = .ok q.2)) = true := rdc_all _ 0 _ rfl (by decide +kernel)
def tb_L_law_10 : List (Nat × Instr × Nat) := [(700, .goto 648, 3), (703, .aload_n 1, 1), (704, .aload_n 0, 1), (705, .iload_n 3, 1), (706, .iconst 1, 1), (707, .iadd, 1), (708, .iaload, 1), (709, .invokevirtual 90, 3), (712, .pop, 1), (713, .aload_n 2, 1), (714, .aload_n 0, 1), (715, .iload_n 3, 1), (716, .iconst 1, 1), (717, .iadd, 1), (718, .iaload, 1), (719, .invokevirtual 93, 3), (722, .pop, 1), (723, .goto 625, 3), (726, .aload_n 1, 1), (727, .aload_n 0, 1), (728, .iload_n 3, 1), (729, .iconst 1, 1), (730, .iadd, 1), (731, .iaload, 1), (732, .invokevirtual 94, 3), (735, .pop, 1), (736, .aload_n 2, 1), (737, .aload_n 0, 1), (738, .iload_n 3, 1), (739, .iconst 1, 1), (740, .iadd, 1), (741, .iaload, 1), (742, .invokevirtual 97, 3), (745, .pop, 1), (746, .goto 602, 3), (749, .aload_n 1, 1), (750, .aload_n 0, 1), (751, .iload_n 3, 1), (752, .iconst 1, 1), (753, .iadd, 1)]
theorem ok_L_law_10 : (tb_L_law_10.all fun q => decide (decode cL_law q.1 = .ok q.2)) = true := rdc_all _ 0 _ rfl (by decide +kernel)
def tb_L_law_11 : List (Nat × Instr × Nat) := [(754, .iaload, 1), (755, .invokevirtual 98, 3), (758, .pop, 1), (759, .aload_n 2, 1), (760, .aload_n 0, 1), (761, .iload_n 3, 1), (762, .iconst 1, 1), (763, .iadd, 1), (764, .iaload, 1), (765, .invokevirtual 101, 3), (768, .pop, 1), (769, .goto 579, 3), (772, .aload_n 1, 1), (773, .aload_n 0, 1), (774, .iload_n 3, 1), (775, .iconst 1, 1), (776, .iadd, 1), (777, .iaload, 1), (778, .invokevirtual 102, 3), (781, .pop, 1), (782, .aload_n 2, 1), (783, .aload_n 0, 1), (784, .iload_n 3, 1), (785, .iconst 1, 1), (786, .iadd, 1), (787, .iaload, 1), (788, .invokevirtual 105, 3), (791, .pop, 1), (792, .goto 556, 3), (795, .aload_n 1, 1), (796, .aload_n 0, 1), (797, .iload_n 3, 1), (798, .iconst 1, 1), (799, .iadd, 1), (800, .iaload, 1), (801, .invokevirtual 106, 3), (804, .pop, 1), (805, .aload_n 2, 1), (806, .aload_n 0, 1), (807, .iload_n 3, 1)]
theorem ok_L_law_11 : (tb_L_law_11.all fun q => decide (decode cL_law q.1 = .ok q.2)) = true := rdc_all _ 0 _ rfl (by decide +kernel)
def tb_L_law_12 : List (Nat × Instr × Nat) := [(808, .iconst 1, 1), (809, .iadd, 1), (810, .iaload, 1), (811, .invokevirtual 109, 3), (814, .pop, 1), (815, .goto 533, 3), (818, .aload_n 1, 1), (819, .aload_n 0, 1), (820, .iload_n 3, 1), (821, .iconst 1, 1), (822, .iadd, 1), (823, .iaload, 1), (824, .aload_n 0, 1), (825, .iload_n 3, 1), (826, .iconst 2, 1), (827, .iadd, 1), (828, .iaload, 1), (829, .ifCond .eq 7, 3), (832, .iconst 1, 1), (833, .goto 4, 3), (836, .iconst 0, 1), (837, .aload_n 0, 1), (838, .iload_n 3, 1), (839, .iconst 3, 1), (840, .iadd, 1), (841, .iaload, 1), (842, .invokevirtual 110, 3), (845, .pop, 1), (846, .aload_n 2, 1), (847, .aload_n 0, 1), (848, .iload_n 3, 1), (849, .iconst 1, 1), (850, .iadd, 1), (851, .iaload, 1), (852, .aload_n 0, 1), (853, .iload_n 3, 1), (854, .iconst 2, 1), (855, .iadd, 1), (856, .iaload, 1), (857, .ifCond .eq 7, 3)]
theorem ok_L_law_12 : (tb_L_law_12.all fun q => decide (decode cL_law q.1 = .ok q.2)) = true := rdc_all _ 0 _ rfl (by decide +kernel)
def tb_L_law_13 : List (Nat × Instr × Nat) := [(860, .iconst 1, 1), (861, .goto 4, 3), (864, .iconst 0, 1), (865, .aload_n 0, 1), (866, .iload_n 3, 1), (867, .iconst 3, 1), (868, .iadd, 1), (869, .iaload, 1), (870, .invokevirtual 114, 3), (873, .pop, 1), (874, .goto 474, 3), (877, .aload_n 1, 1), (878, .aload_n 0, 1), (879, .iload_n 3, 1), (880, .iconst 1, 1), (881, .iadd, 1), (882, .iaload, 1), (883, .aload_n 0, 1), (884, .iload_n 3, 1), (885, .iconst 2, 1), (886, .iadd, 1), (887, .iaload, 1), (888, .invokevirtual 115, 3), (891, .pop, 1), (892, .aload_n 2, 1), (893, .aload_n 0, 1), (894, .iload_n 3, 1), (895, .iconst 1, 1), (896, .iadd, 1), (897, .iaload, 1), (898, .aload_n 0, 1), (899, .iload_n 3, 1), (900, .iconst 2, 1), (901, .iadd, 1), (902, .iaload, 1), (903, .invokevirtual 118, 3), (906, .pop, 1), (907, .goto 441, 3), (910, .aload_n 1, 1), (911, .aload_n 0, 1)]
theorem ok_L_law_13 : (tb_L_law_13.all fun q => decide (decode cL_law q.1 = .ok q.2)) = true := rdc_all _ 0 _ rfl (by decide +kernel)
def tb_L_law_14 : List (Nat × Instr × Nat) := [(912, .iload_n 3, 1), (913, .iconst 1, 1), (914, .iadd, 1), (915, .iaload, 1), (916, .invokevirtual 119, 3), (919, .pop, 1), (920, .aload_n 2, 1), (921, .aload_n 0, 1), (922, .iload_n 3, 1), (923, .iconst 1, 1), (924, .iadd, 1), (925, .iaload, 1), (926, .invokevirtual 122, 3), (929, .pop, 1), (930, .goto 418, 3), (933, .aload_n 1, 1), (934, .aload_n 0, 1), (935, .iload_n 3, 1), (936, .iconst 1, 1), (937, .iadd, 1), (938, .iaload, 1), (939, .invokevirtual 123, 3), (942, .pop, 1), (943, .aload_n 2, 1), (944, .aload_n 0, 1), (945, .iload_n 3, 1), (946, .iconst 1, 1), (947, .iadd, 1), (948, .iaload, 1), (949, .invokevirtual 126, 3), (952, .pop, 1), (953, .goto 395, 3), (956, .aload_n 1, 1), (957, .aload_n 0, 1), (958, .iload_n 3, 1), (959, .iconst 1, 1), (960, .iadd, 1), (961, .iaload, 1), (962, .invokevirtual 127, 3), (965, .pop, 1)]
theorem ok_L_law_14 : (tb_L_law_14.all fun q => decide (decode cL_law q.1 = .ok q.2)) = true := rdc_all _ 0 _ rfl (by decide +kernel)
def tb_L_law_15 : List (Nat × Instr × Nat) := [(966, .aload_n 2, 1), (967, .aload_n 0, 1), (968, .iload_n 3, 1), (969, .iconst 1, 1), (970, .iadd, 1), (971, .iaload, 1), (972, .invokevirtual 130, 3), (975, .pop, 1), (976, .goto 372, 3), (979, .aload_n 1, 1), (980, .aload_n 0, 1), (981, .iload_n 3, 1), (982, .iconst 1, 1), (983, .iadd, 1), (984, .iaload, 1), (985, .aload_n 0, 1), (986, .iload_n 3, 1), (987, .iconst 2, 1), (988, .iadd, 1), (989, .iaload, 1), (990, .aload_n 0, 1), (991, .iload_n 3, 1), (992, .iconst 3, 1), (993, .iadd, 1), (994, .iaload, 1), (995, .aload_n 0, 1), (996, .iload_n 3, 1), (997, .iconst 4, 1), (998, .iadd, 1), (999, .iaload, 1), (1000, .invokevirtual 131, 3), (1003, .pop, 1), (1004, .aload_n 2, 1), (1005, .aload_n 0, 1), (1006, .iload_n 3, 1), (1007, .iconst 1, 1), (1008, .iadd, 1), (1009, .iaload, 1), (1010, .aload_n 0, 1), (1011, .iload_n 3, 1)]
theorem ok_L_law_15 : (tb_L_law_15.all fun q => decide (decode cL_law q.1 = .ok q.2)) = true := rdc_all _ 0 _ rfl (by decide +kernel)
def tb_L_law_16 : List (Nat × Instr × Nat) := [(1012, .iconst 2, 1), (1013, .iadd, 1), (1014, .iaload, 1), (1015, .aload_n 0, 1), (1016, .iload_n 3, 1), (1017, .iconst 3, 1), (1018, .iadd, 1), (1019, .iaload, 1), (1020, .aload_n 0, 1), (1021, .iload_n 3, 1), (1022, .iconst 4, 1), (1023, .iadd, 1), (1024, .iaload, 1), (1025, .invokevirtual 135, 3), (1028, .pop, 1), (1029, .goto 319, 3), (1032, .aload_n 1, 1), (1033, .aload_n 0, 1), (1034, .iload_n 3, 1), (1035, .iconst 1, 1), (1036, .iadd, 1), (1037, .iaload, 1), (1038, .aload_n 0, 1), (1039, .iload_n 3, 1), (1040, .iconst 2, 1), (1041, .iadd, 1), (1042, .iaload, 1), (1043, .ifCond .eq 7, 3), (1046, .iconst 1, 1), (1047, .goto 4, 3), (1050, .iconst 0, 1), (1051, .invokevirtual 136, 3), (1054, .pop, 1), (1055, .aload_n 2, 1), (1056, .aload_n 0, 1), (1057, .iload_n 3, 1), (1058, .iconst 1, 1), (1059, .iadd, 1), (1060, .iaload, 1), (1061, .aload_n 0, 1)]
theorem ok_L_law_16 : (tb_L_law_16.all fun q => decide (decode cL_law q.1 = .ok q.2)) = true := rdc_all _ 0 _ rfl (by decide +kernel)
def tb_L_law_17 : List (Nat × Instr × Nat) := [(1062, .iload_n 3, 1), (1063, .iconst 2, 1), (1064, .iadd, 1), (1065, .iaload, 1), (1066, .ifCond .eq 7, 3), (1069, .iconst 1, 1), (1070, .goto 4, 3), (1073, .iconst 0, 1), (1074, .invokevirtual 140, 3), (1077, .pop, 1), (1078, .goto 270, 3), (1081, .aload_n 1, 1), (1082, .aload_n 0, 1), (1083, .iload_n 3, 1), (1084, .iconst 1, 1), (1085, .iadd, 1), (1086, .iaload, 1), (1087, .invokevirtual 141, 3), (1090, .pop2, 1), (1091, .aload_n 2, 1), (1092, .aload_n 0, 1), (1093, .iload_n 3, 1), (1094, .iconst 1, 1), (1095, .iadd, 1), (1096, .iaload, 1), (1097, .invokevirtual 144, 3), (1100, .pop2, 1), (1101, .goto 247, 3), (1104, .aload_n 1, 1), (1105, .aload_n 0, 1), (1106, .iload_n 3, 1), (1107, .iconst 1, 1), (1108, .iadd, 1), (1109, .iaload, 1), (1110, .invokevirtual 145, 3), (1113, .pop, 1), (1114, .aload_n 2, 1), (1115, .aload_n 0, 1), (1116, .iload_n 3, 1), (1117, .iconst 1, 1)]
theorem ok_L_law_17 : (tb_L_law_17.all fun q => decide (decode cL_law q.1 = .ok q.2)) = true := rdc_all _ 0 _ rfl (by decide +kernel)
def tb_L_law_18 : List (Nat × Instr × Nat) := [(1118, .iadd, 1), (1119, .iaload, 1), (1120, .invokevirtual 148, 3), (1123, .pop, 1), (1124, .goto 224, 3), (1127, .aload_n 1, 1), (1128, .aload_n 0, 1), (1129, .iload_n 3, 1), (1130, .iconst 1, 1), (1131, .iadd, 1), (1132, .iaload, 1), (1133, .invokevirtual 149, 3), (1136, .pop, 1), (1137, .aload_n 2, 1), (1138, .aload_n 0, 1), (1139, .iload_n 3, 1), (1140, .iconst 1, 1), (1141, .iadd, 1), (1142, .iaload, 1), (1143, .invokevirtual 152, 3), (1146, .pop, 1), (1147, .goto 201, 3), (1150, .aload_n 1, 1), (1151, .aload_n 0, 1), (1152, .iload_n 3, 1), (1153, .iconst 1, 1), (1154, .iadd, 1), (1155, .iaload, 1), (1156, .invokevirtual 153, 3), (1159, .pop, 1), (1160, .aload_n 2, 1), (1161, .aload_n 0, 1), (1162, .iload_n 3, 1), (1163, .iconst 1, 1), (1164, .iadd, 1), (1165, .iaload, 1), (1166, .invokevirtual 156, 3), (1169, .pop, 1), (1170, .goto 178, 3), (1173, .aload_n 1, 1)]
theorem ok_L_law_18 : (tb_L_law_18.all fun q => decide (decode cL_law q.1 = .ok q.2)) = true := rdc_all _ 0 _ rfl (by decide +kernel)
def tb_L_law_19 : List (Nat × Instr × Nat) := [(1174, .aload_n 0, 1), (1175, .iload_n 3, 1), (1176, .iconst 1, 1), (1177, .iadd, 1), (1178, .iaload, 1), (1179, .aload_n 0, 1), (1180, .iload_n 3, 1), (1181, .iconst 2, 1), (1182, .iadd, 1), (1183, .iaload, 1), (1184, .aload_n 0, 1), (1185, .iload_n 3, 1), (1186, .iconst 3, 1), (1187, .iadd, 1), (1188, .iaload, 1), (1189, .invokevirtual 157, 3), (1192, .pop, 1), (1193, .aload_n 2, 1), (1194, .aload_n 0, 1), (1195, .iload_n 3, 1), (1196, .iconst 1, 1), (1197, .iadd, 1), (1198, .iaload, 1), (1199, .aload_n 0, 1), (1200, .iload_n 3, 1), (1201, .iconst 2, 1), (1202, .iadd, 1), (1203, .iaload, 1), (1204, .aload_n 0, 1), (1205, .iload_n 3, 1), (1206, .iconst 3, 1), (1207, .iadd, 1), (1208, .iaload, 1), (1209, .invokevirtual 161, 3), (1212, .pop, 1), (1213, .goto 135, 3), (1216, .aload_n 1, 1), (1217, .aload_n 0, 1), (1218, .iload_n 3, 1), (1219, .iconst 1, 1)]
theorem ok_L_law_19 : (tb_L_law_19.all fun q => decide (decode cL_law q.1 = .ok q.2)) = true := rdc_all _ 0 _ rfl (by decide +kernel)
def tb_L_law_20 : List (Nat × Instr × Nat) := [(1220, .iadd, 1), (1221, .iaload, 1), (1222, .aload_n 0, 1), (1223, .iload_n 3, 1), (1224, .iconst 2, 1), (1225, .iadd, 1), (1226, .iaload, 1), (1227, .aload_n 0, 1), (1228, .iload_n 3, 1), (1229, .iconst 3, 1), (1230, .iadd, 1), (1231, .iaload, 1), (1232, .invokevirtual 162, 3), (1235, .pop, 1), (1236, .aload_n 2, 1), (1237, .aload_n 0, 1), (1238, .iload_n 3, 1), (1239, .iconst 1, 1), (1240, .iadd, 1), (1241, .iaload, 1), (1242, .aload_n 0, 1), (1243, .iload_n 3, 1), (1244, .iconst 2, 1), (1245, .iadd, 1), (1246, .iaload, 1), (1247, .aload_n 0, 1), (1248, .iload_n 3, 1), (1249, .iconst 3, 1), (1250, .iadd, 1), (1251, .iaload, 1), (1252, .invokevirtual 165, 3), (1255, .pop, 1), (1256, .goto 92, 3), (1259, .aload_n 1, 1), (1260, .aload_n 0, 1), (1261, .iload_n 3, 1), (1262, .iconst 1, 1), (1263, .iadd, 1), (1264, .iaload, 1), (1265, .aload_n 0, 1)]
theorem ok_L_law_20 : (tb_L_law_20.all fun q => decide (decode cL_law q.1 = .ok q.2)) = true := rdc_all _ 0 _ rfl (by decide +kernel)
def tb_L_law_21 : List (Nat × Instr × Nat) := [(1266, .iload_n 3, 1), (1267, .iconst 2, 1), (1268, .iadd, 1), (1269, .iaload, 1), (1270, .aload_n 0, 1), (1271, .iload_n 3, 1), (1272, .iconst 3, 1), (1273, .iadd, 1), (1274, .iaload, 1), (1275, .aload_n 0, 1), (1276, .iload_n 3, 1), (1277, .iconst 4, 1), (1278, .iadd, 1), (1279, .iaload, 1), (1280, .invokevirtual 166, 3), (1283, .pop, 1), (1284, .aload_n 2, 1), (1285, .aload_n 0, 1), (1286, .iload_n 3, 1), (1287, .iconst 1, 1), (1288, .iadd, 1), (1289, .iaload, 1), (1290, .aload_n 0, 1), (1291, .iload_n 3, 1), (1292, .iconst 2, 1), (1293, .iadd, 1), (1294, .iaload, 1), (1295, .aload_n 0, 1), (1296, .iload_n 3, 1), (1297, .iconst 3, 1), (1298, .iadd, 1), (1299, .iaload, 1), (1300, .aload_n 0, 1), (1301, .iload_n 3, 1), (1302, .iconst 4, 1), (1303, .iadd, 1), (1304, .iaload, 1), (1305, .invokevirtual 169, 3), (1308, .pop, 1), (1309, .goto 39, 3)]
theorem ok_L_law_21 : (tb_L_law_21.all fun q => decide (decode cL_law q.1 = .ok q.2)) = true := rdc_all _ 0 _ rfl (by decide +kernel)
def tb_L_law_22 : List (Nat × Instr × Nat) := [(1312, .aload_n 1, 1), (1313, .invokevirtual 170, 3), (1316, .pop, 1), (1317, .aload_n 2, 1), (1318, .invokevirtual 173, 3), (1321, .pop, 1), (1322, .goto 26, 3), (1325, .aload_n 1, 1), (1326, .aload_n 0, 1), (1327, .iload_n 3, 1), (1328, .iconst 1, 1), (1329, .iadd, 1), (1330, .iaload, 1), (1331, .invokevirtual 174, 3), (1334, .aload_n 2, 1), (1335, .aload_n 0, 1), (1336, .iload_n 3, 1), (1337, .iconst 1, 1), (1338, .iadd, 1), (1339, .iaload, 1), (1340, .invokevirtual 177, 3), (1343, .if_icmp .eq 5, 3), (1346, .iconst 0, 1), (1347, .ireturn, 1), (1348, .iinc 3 5, 3), (1351, .goto (-1333), 3), (1354, .iconst 1, 1), (1355, .ireturn, 1)]
theorem ok_L_law_22 : (tb_L_law_22.all fun q => decide (decode cL_law q.1 = .ok q.2)) = true := rdc_all _ 0 _ rfl (by decide +kernel)
